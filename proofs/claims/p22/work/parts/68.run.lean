set_option maxHeartbeats 16000000 in
set_option maxRecDepth 100000 in
theorem law_run {p : Program} {l : Launch} {e : Env} {s : State} {m : MethodId} {below : List Frame} {meth : Method} {c : Code} {b L : Nat} {xs : Nat → Int32} (hst : l.stackTraces = false) (G : Gx) (A : Nat → Prop) (F : Fx G p s m #[.ref b] meth c cL_law 13 wsL_law RL A) (hr : meth.sig.returnType = ret) (hL : L ≤ 260) (hX : va_X b L xs s s.heap) (hbl : b < s.heap.size) (hbA : ¬ A b) (hA9 : ∀ z, A z → s.heap.size ≤ z) (q : Nat → Nat) (o : Nat) : ∀ (n_lp : Nat) (kk : Nat) (nc : Nat) (fl : Int32) (w0 : va_W) (v : Nat → Int32) (hv : v 0 = nI nc) (hS : SI G q nc fl w0) (hc_lp : kk + n_lp = 90) (H : Heap) (locs : List Loc) (ls : Array Slot), HH G A s (w0 ++ gC G o v) H locs → lv_has ls 13 [(5, .int (nI kk)), (4, .int fl), (3, .int 1), (2, .ref o), (1, .ref (q 0)), (0, .ref b)] → W p l e room_1 s m #[Value.ref b] below meth c H locs (100 + 60 * kk) (2000 + 1500 * kk) (lw_Z below #[Value.ref b] s) (F0 m 55 ls []) := by
  have hx := F.1.1
  have hb := F.1.2.1
  have lp : ∀ (n_lp : Nat) (kk : Nat) (nc : Nat) (fl : Int32) (w0 : va_W) (v : Nat → Int32) (hv : v 0 = nI nc) (hS : SI G q nc fl w0) (hc_lp : kk + n_lp = 90) (H : Heap) (locs : List Loc) (ls : Array Slot), HH G A s (w0 ++ gC G o v) H locs → lv_has ls 13 [(5, .int (nI kk)), (4, .int fl), (3, .int 1), (2, .ref o), (1, .ref (q 0)), (0, .ref b)] → W p l e room_1 s m #[Value.ref b] below meth c H locs (100 + 60 * kk) (2000 + 1500 * kk) (lw_Z below #[Value.ref b] s) (F0 m 55 ls []) := by
    intro n_lp
    induction n_lp with
    | zero =>
      intro kk nc fl w0 v hv hS hc_lp H locs ls hH hl
      obtain ⟨n, t, fd, k, wd, wf, wa, cd, cf, rfl, hI⟩ := hS
      refine lv_iload hx hb dL_law_55 (lv_at hl 0 rfl) ?_
      refine lv_bipush (v := 90) hx hb dL_law_57 (by decide) ?_
      refine lv_icmp_ge (tgt := 439) hx hb dL_law_59 (by decide) (fun c_59 => ?_) (fun c_59 => absurd (by rw [show kk = 90 by omega]; decide) c_59)
      refine lv_iload_n hx hb dL_law_439 rfl (lv_at hl 2 rfl) ?_
      refine lv_if_eq (tgt := 454) hx hb dL_law_440 (by decide) (fun c_440 => absurd c_440 (by decide)) (fun c_440 => ?_)
      refine lv_aload_n hx hb dL_law_443 rfl (lv_at hl 4 rfl) ?_
      refine callSI (rest := []) F (c_kept l hst G q n nc t fl fd k wd wf wa cd cf hI) gL_law_L_kept rfl hdL_kept ⟨Nat.le_of_ble_eq_true rfl, Nat.le_of_ble_eq_true rfl⟩ ([] : va_W) (gC G o v) hH (by simp only [List.nil_append, List.append_nil]) rfl hl.1 (Nat.le_of_ble_eq_true rfl) dL_law_444 ⟨(by show 100 + 60 * kk + 32 ≤ 600104; omega), (by show 2000 + 1500 * kk + 200 ≤ 7301314; omega)⟩ rfl (fun u H locs hH => ?_)
      rw [List.nil_append] at hH
      have hH : HH G A s (sW G q n nc t fl fd k wd wf wa cd cf ++ gC G o v) H locs := hH
      refine lv_if_eq (tgt := 454) hx hb dL_law_447 (by decide) (fun c_447 => absurd c_447 (by decide)) (fun c_447 => ?_)
      refine lv_iconst (v := 1) hx hb dL_law_450 (by decide) ?_
      refine lv_goto (tgt := 455) hx hb dL_law_451 (by decide) ?_
      refine va_forget (fun z hz => hA9 _ (hH.2.2.2.2 z hz)) ?_
      refine W.widen (k := 600104) (n := 7301314) (by show 100 + 60 * kk + 32 ≤ 600104; omega) (by show 2000 + 1500 * kk + 200 ≤ 7301314; omega) ?_
      exact lw_ret hx hb hr F.2.1 dL_law_455
    | succ n_lp ih_lp =>
      intro kk nc fl w0 v hv hS hc_lp H locs ls hH hl
      obtain ⟨n, t, fd, k, wd, wf, wa, cd, cf, rfl, hI⟩ := hS
      have hn : n ≤ 8 := hI.1
      refine lv_iload hx hb dL_law_55 (lv_at hl 0 rfl) ?_
      refine lv_bipush (v := 90) hx hb dL_law_57 (by decide) ?_
      refine lv_icmp_ge (tgt := 439) hx hb dL_law_59 (by decide) (fun c_59 => absurd c_59 (nI_ge (a := kk) (b := 90) (by omega) (by decide))) (fun c_59 => ?_)
      refine lv_iload_n hx hb dL_law_62 rfl (lv_at hl 2 rfl) ?_
      refine lv_if_eq (tgt := 439) hx hb dL_law_63 (by decide) (fun c_63 => absurd c_63 (by decide)) (fun c_63 => ?_)
      refine lv_aload_n hx hb dL_law_66 rfl (lv_at hl 5 rfl) ?_
      refine lv_iconst (v := 2) hx hb dL_law_67 (by decide) ?_
      refine lv_iload hx hb dL_law_68 (lv_at hl 0 rfl) ?_
      refine lv_imul hx hb dL_law_70 ?_
      rw [show (2 : Int32) * nI kk = nI (2 * kk) from pk_mul 2 kk]
      refine callSC (rest := []) F (c_cell l G b L xs hL (2 * kk) (by omega)) gL_law_L_cell rfl hdL_cell ⟨Nat.le_of_ble_eq_true rfl, Nat.le_of_ble_eq_true rfl⟩ hX hbl hbA hH rfl hl.1 (Nat.le_of_ble_eq_true rfl) dL_law_71 ⟨(by show 100 + 60 * kk + 0 ≤ 600104; omega), (by show 2000 + 1500 * kk + 0 ≤ 7301314; omega)⟩ rfl (fun x9 H locs hH => ?_)
      refine lv_istore (lv' := [(6, .int x9), (5, .int (nI kk)), (4, .int fl), (3, .int 1), (2, .ref o), (1, .ref (q 0)), (0, .ref b)]) hx hb dL_law_74 hl (by decide) rfl (fun ls hl => ?_)
      refine lv_aload_n hx hb dL_law_76 rfl (lv_at hl 6 rfl) ?_
      refine lv_iconst (v := 2) hx hb dL_law_77 (by decide) ?_
      refine lv_iload hx hb dL_law_78 (lv_at hl 1 rfl) ?_
      refine lv_imul hx hb dL_law_80 ?_
      refine lv_iconst (v := 1) hx hb dL_law_81 (by decide) ?_
      refine lv_iadd hx hb dL_law_82 ?_
      rw [show (2 : Int32) * nI kk + 1 = nI (2 * kk + 1) from by rw [show (2 : Int32) = nI 2 from rfl, pk_mul, nI_1]]
      refine callSC (rest := []) F (c_cell l G b L xs hL (2 * kk + 1) (by omega)) gL_law_L_cell rfl hdL_cell ⟨Nat.le_of_ble_eq_true rfl, Nat.le_of_ble_eq_true rfl⟩ hX hbl hbA hH rfl hl.1 (Nat.le_of_ble_eq_true rfl) dL_law_83 ⟨(by show 100 + 60 * kk + 0 + 0 ≤ 600104; omega), (by show 2000 + 1500 * kk + 0 + 0 ≤ 7301314; omega)⟩ rfl (fun z9 H locs hH => ?_)
      have j389 : ∀ (nc2 : Nat) (fl2 : Int32) (w2 : va_W) (v2 : Nat → Int32) (hv2 : v2 0 = nI nc2) (hS2 : SI G q nc2 fl2 w2) (H : Heap) (locs : List Loc) (ls : Array Slot), HH G A s (w2 ++ gC G o v2) H locs → lv_has ls 13 [(3, .int 1), (4, .int fl2), (5, .int (nI kk)), (6, .int x9), (7, .int z9), (2, .ref o), (1, .ref (q 0)), (0, .ref b)] → W p l e room_1 s m #[Value.ref b] below meth c H locs (100 + 60 * kk + 20) (2000 + 1500 * kk + 1260) (lw_Z below #[Value.ref b] s) (F0 m 389 ls []) := by
        intro nc2 fl2 w2 v2 hv2 hS2 H locs ls hH hl
        obtain ⟨n, t, fd, k, wd, wf, wa, cd, cf, rfl, hI⟩ := hS2
        refine lv_iload_n hx hb dL_law_389 rfl (lv_at hl 0 rfl) ?_
        refine lv_if_eq (tgt := 431) hx hb dL_law_390 (by decide) (fun c_390 => absurd c_390 (by decide)) (fun c_390 => ?_)
        refine lv_aload_n hx hb dL_law_393 rfl (lv_at hl 6 rfl) ?_
        refine lv_iload hx hb dL_law_394 (lv_at hl 4 rfl) ?_
        refine lv_iconst (v := 2) hx hb dL_law_396 (by decide) ?_
        refine lv_ishr hx hb dL_law_397 ?_
        refine lv_iload hx hb dL_law_398 (lv_at hl 3 rfl) ?_
        refine lv_iconst (v := 5) hx hb dL_law_400 (by decide) ?_
        refine lv_imul hx hb dL_law_401 ?_
        refine lv_iload hx hb dL_law_402 (lv_at hl 4 rfl) ?_
        refine lv_iadd hx hb dL_law_404 ?_
        refine lv_iconst (v := 0) hx hb dL_law_405 (by decide) ?_
        refine callSP (rest := []) F (c_notices l hst G q n nc2 t fl2 fd k wd wf wa cd cf (z9 >>> (2 &&& 31)) (x9 * 5 + z9) 0 hI) gL_law_L_notices rfl hdL_notices ⟨Nat.le_of_ble_eq_true rfl, Nat.le_of_ble_eq_true rfl⟩ ([] : va_W) (gC G o v2) hH (by simp only [List.nil_append, List.append_nil]) rfl hl.1 (Nat.le_of_ble_eq_true rfl) dL_law_406 ⟨(by show 100 + 60 * kk + 20 + 4 ≤ 600104; omega), (by show 2000 + 1500 * kk + 1260 + 24 ≤ 7301314; omega)⟩ rfl (fun r9 w9 H locs hP9 hH => ?_)
        rw [List.nil_append] at hH
        obtain ⟨rfl, hS3⟩ := hP9
        have hH : HH G A s (w9 ++ gC G o v2) H locs := hH
        refine lv_if_eq (tgt := 431) hx hb dL_law_409 (by decide) (fun c_409 => absurd c_409 (by decide)) (fun c_409 => ?_)
        refine lv_iload hx hb dL_law_412 (lv_at hl 2 rfl) ?_
        refine lv_bipush (v := 9) hx hb dL_law_414 (by decide) ?_
        refine lv_irem hx hb dL_law_416 (by decide) ?_
        refine lv_if_gt (tgt := 427) hx hb dL_law_417 (by decide) (fun c_417 => ?_) (fun c_417 => ?_)
        · refine lv_iconst (v := 1) hx hb dL_law_427 (by decide) ?_
          refine lv_goto (tgt := 432) hx hb dL_law_428 (by decide) ?_
          refine lv_istore_n (lv' := [(3, .int 1), (4, .int fl2), (5, .int (nI kk)), (6, .int x9), (7, .int z9), (2, .ref o), (1, .ref (q 0)), (0, .ref b)]) hx hb dL_law_432 rfl hl (by decide) rfl (fun ls hl => ?_)
          refine lv_iinc (v := (nI (kk + 1))) (lv' := [(5, .int (nI (kk + 1))), (3, .int 1), (4, .int fl2), (6, .int x9), (7, .int z9), (2, .ref o), (1, .ref (q 0)), (0, .ref b)]) hx hb dL_law_433 hl (k := 2) rfl (nI_1 kk) (by decide) rfl (fun ls hl => ?_)
          refine lv_goto (tgt := 55) hx hb dL_law_436 (by decide) ?_
          refine W.widen (k := 100 + 60 * (kk + 1)) (n := 2000 + 1500 * (kk + 1)) (by show 100 + 60 * kk + 20 + 4 ≤ 100 + 60 * (kk + 1); omega) (by show 2000 + 1500 * kk + 1260 + 24 ≤ 2000 + 1500 * (kk + 1); omega) ?_
          exact ih_lp (kk + 1) nc2 fl2 w9 v2 hv2 hS3 (by omega) _ _ _ hH (lv_sub hl [0, 2, 1, 5, 6, 7] rfl)
        · obtain ⟨n, t, fd, k, wd, wf, wa, cd, cf, rfl, hI⟩ := hS3
          refine lv_aload_n hx hb dL_law_420 rfl (lv_at hl 6 rfl) ?_
          refine callSI (rest := []) F (c_kept l hst G q n nc2 t fl2 fd k wd wf wa cd cf hI) gL_law_L_kept rfl hdL_kept ⟨Nat.le_of_ble_eq_true rfl, Nat.le_of_ble_eq_true rfl⟩ ([] : va_W) (gC G o v2) hH (by simp only [List.nil_append, List.append_nil]) rfl hl.1 (Nat.le_of_ble_eq_true rfl) dL_law_421 ⟨(by show 100 + 60 * kk + 20 + 4 + 32 ≤ 600104; omega), (by show 2000 + 1500 * kk + 1260 + 24 + 200 ≤ 7301314; omega)⟩ rfl (fun u H locs hH => ?_)
          rw [List.nil_append] at hH
          have hH : HH G A s (sW G q n nc2 t fl2 fd k wd wf wa cd cf ++ gC G o v2) H locs := hH
          refine lv_if_eq (tgt := 431) hx hb dL_law_424 (by decide) (fun c_424 => absurd c_424 (by decide)) (fun c_424 => ?_)
          refine lv_iconst (v := 1) hx hb dL_law_427 (by decide) ?_
          refine lv_goto (tgt := 432) hx hb dL_law_428 (by decide) ?_
          refine lv_istore_n (lv' := [(3, .int 1), (4, .int fl2), (5, .int (nI kk)), (6, .int x9), (7, .int z9), (2, .ref o), (1, .ref (q 0)), (0, .ref b)]) hx hb dL_law_432 rfl hl (by decide) rfl (fun ls hl => ?_)
          refine lv_iinc (v := (nI (kk + 1))) (lv' := [(5, .int (nI (kk + 1))), (3, .int 1), (4, .int fl2), (6, .int x9), (7, .int z9), (2, .ref o), (1, .ref (q 0)), (0, .ref b)]) hx hb dL_law_433 hl (k := 2) rfl (nI_1 kk) (by decide) rfl (fun ls hl => ?_)
          refine lv_goto (tgt := 55) hx hb dL_law_436 (by decide) ?_
          refine W.widen (k := 100 + 60 * (kk + 1)) (n := 2000 + 1500 * (kk + 1)) (by show 100 + 60 * kk + 20 + 4 + 32 ≤ 100 + 60 * (kk + 1); omega) (by show 2000 + 1500 * kk + 1260 + 24 + 200 ≤ 2000 + 1500 * (kk + 1); omega) ?_
          exact ih_lp (kk + 1) nc2 fl2 _ v2 hv2 ⟨n, t, fd, k, wd, wf, wa, cd, cf, rfl, hI⟩ (by omega) _ _ _ hH (lv_sub hl [0, 2, 1, 5, 6, 7] rfl)
      refine lv_istore (lv' := [(7, .int z9), (6, .int x9), (5, .int (nI kk)), (4, .int fl), (3, .int 1), (2, .ref o), (1, .ref (q 0)), (0, .ref b)]) hx hb dL_law_86 hl (by decide) rfl (fun ls hl => ?_)
      refine lv_iload hx hb dL_law_88 (lv_at hl 1 rfl) ?_
      refine lv_bipush (v := 9) hx hb dL_law_90 (by decide) ?_
      refine lv_ishr hx hb dL_law_92 ?_
      refine lv_bipush (v := 10) hx hb dL_law_93 (by decide) ?_
      refine callSI (rest := []) F (c_some l G (sW G q n nc t fl fd k wd wf wa cd cf) (x9 >>> (9 &&& 31)) 10 (by decide)) gL_law_L_some rfl hdL_some ⟨Nat.le_of_ble_eq_true rfl, Nat.le_of_ble_eq_true rfl⟩ ([] : va_W) (gC G o v) hH (by simp only [List.nil_append, List.append_nil]) rfl hl.1 (Nat.le_of_ble_eq_true rfl) dL_law_95 ⟨(by show 100 + 60 * kk + 0 + 0 + 0 ≤ 600104; omega), (by show 2000 + 1500 * kk + 0 + 0 + 0 ≤ 7301314; omega)⟩ rfl (fun u H locs hH => ?_)
      rw [List.nil_append] at hH
      have hH : HH G A s (sW G q n nc t fl fd k wd wf wa cd cf ++ gC G o v) H locs := hH
      have j106 : ∀ (od : Int32) (H : Heap) (locs : List Loc) (ls : Array Slot), HH G A s (sW G q n nc t fl fd k wd wf wa cd cf ++ gC G o v) H locs → lv_has ls 13 [(7, .int z9), (6, .int x9), (5, .int (nI kk)), (4, .int fl), (3, .int 1), (2, .ref o), (1, .ref (q 0)), (0, .ref b)] → W p l e room_1 s m #[Value.ref b] below meth c H locs (100 + 60 * kk + 0 + 0 + 0) (2000 + 1500 * kk + 0 + 0 + 0) (lw_Z below #[Value.ref b] s) (F0 m 106 ls [.int od]) := by
        intro od H locs ls hH hl
        refine lv_istore (lv' := [(8, .int od), (7, .int z9), (6, .int x9), (5, .int (nI kk)), (4, .int fl), (3, .int 1), (2, .ref o), (1, .ref (q 0)), (0, .ref b)]) hx hb dL_law_106 hl (by decide) rfl (fun ls hl => ?_)
        refine lv_iload hx hb dL_law_108 (lv_at hl 2 rfl) ?_
        refine lv_bipush (v := 16) hx hb dL_law_110 (by decide) ?_
        refine callSI (rest := []) F (c_some l G (sW G q n nc t fl fd k wd wf wa cd cf) x9 16 (by decide)) gL_law_L_some rfl hdL_some ⟨Nat.le_of_ble_eq_true rfl, Nat.le_of_ble_eq_true rfl⟩ ([] : va_W) (gC G o v) hH (by simp only [List.nil_append, List.append_nil]) rfl hl.1 (Nat.le_of_ble_eq_true rfl) dL_law_112 ⟨(by show 100 + 60 * kk + 0 + 0 + 0 + 0 ≤ 600104; omega), (by show 2000 + 1500 * kk + 0 + 0 + 0 + 0 ≤ 7301314; omega)⟩ rfl (fun u H locs hH => ?_)
        rw [List.nil_append] at hH
        have hH : HH G A s (sW G q n nc t fl fd k wd wf wa cd cf ++ gC G o v) H locs := hH
        refine lv_istore (lv' := [(9, .int (someV x9 16)), (8, .int od), (7, .int z9), (6, .int x9), (5, .int (nI kk)), (4, .int fl), (3, .int 1), (2, .ref o), (1, .ref (q 0)), (0, .ref b)]) hx hb dL_law_115 hl (by decide) rfl (fun ls hl => ?_)
        refine lv_aload_n hx hb dL_law_117 rfl (lv_at hl 8 rfl) ?_
        refine callVI (rest := []) F (c_X2_workers l G q n nc t fl fd k wd wf wa cd cf) gL_law_X2_workers rfl hdX2_workers ⟨Nat.le_of_ble_eq_true rfl, Nat.le_of_ble_eq_true rfl⟩ ([] : va_W) (gC G o v) hH (by simp only [List.nil_append, List.append_nil]) ⟨0, 2, _, _, rfl, rfl, rfl⟩ rfl hl.1 (Nat.le_of_ble_eq_true rfl) dL_law_118 ⟨(by show 100 + 60 * kk + 0 + 0 + 0 + 0 + 0 ≤ 600104; omega), (by show 2000 + 1500 * kk + 0 + 0 + 0 + 0 + 0 ≤ 7301314; omega)⟩ rfl (fun u H locs hH => ?_)
        rw [List.nil_append] at hH
        have hH : HH G A s (sW G q n nc t fl fd k wd wf wa cd cf ++ gC G o v) H locs := hH
        refine lv_iconst (v := 2) hx hb dL_law_121 (by decide) ?_
        have j138 : ∀ (hn8 : n < 8) (H : Heap) (locs : List Loc) (ls : Array Slot), HH G A s (sW G q n nc t fl fd k wd wf wa cd cf ++ gC G o v) H locs → lv_has ls 13 [(9, .int (someV x9 16)), (8, .int od), (7, .int z9), (6, .int x9), (5, .int (nI kk)), (4, .int fl), (3, .int 1), (2, .ref o), (1, .ref (q 0)), (0, .ref b)] → W p l e room_1 s m #[Value.ref b] below meth c H locs (100 + 60 * kk + 0 + 0 + 0 + 0 + 0) (2000 + 1500 * kk + 0 + 0 + 0 + 0 + 0) (lw_Z below #[Value.ref b] s) (F0 m 138 ls []) := by
          intro hn8 H locs ls hH hl
          obtain ⟨pj, hpj, epj⟩ := someV_lt z9 (n := 100000) (by decide) (by decide)
          have epj : someV z9 100000 = nI pj := epj
          have e1 : (1 : Int32) + someV z9 100000 = nI (1 + pj) := by rw [epj]; exact nI_add 1 pj
          refine lv_aload_n hx hb dL_law_138 rfl (lv_at hl 8 rfl) ?_
          refine callVI (rest := []) F (c_X2_workers l G q n nc t fl fd k wd wf wa cd cf) gL_law_X2_workers rfl hdX2_workers ⟨Nat.le_of_ble_eq_true rfl, Nat.le_of_ble_eq_true rfl⟩ ([] : va_W) (gC G o v) hH (by simp only [List.nil_append, List.append_nil]) ⟨0, 2, _, _, rfl, rfl, rfl⟩ rfl hl.1 (Nat.le_of_ble_eq_true rfl) dL_law_139 ⟨(by show 100 + 60 * kk + 0 + 0 + 0 + 0 + 0 + 0 ≤ 600104; omega), (by show 2000 + 1500 * kk + 0 + 0 + 0 + 0 + 0 + 0 ≤ 7301314; omega)⟩ rfl (fun u H locs hH => ?_)
          rw [List.nil_append] at hH
          have hH : HH G A s (sW G q n nc t fl fd k wd wf wa cd cf ++ gC G o v) H locs := hH
          refine lv_istore (lv' := [(10, .int (nI n)), (9, .int (someV x9 16)), (8, .int od), (7, .int z9), (6, .int x9), (5, .int (nI kk)), (4, .int fl), (3, .int 1), (2, .ref o), (1, .ref (q 0)), (0, .ref b)]) hx hb dL_law_142 hl (by decide) rfl (fun ls hl => ?_)
          refine lv_aload_n hx hb dL_law_144 rfl (lv_at hl 9 rfl) ?_
          refine callSL (rest := []) F (c_all l G q n nc t fl fd k wd wf wa cd cf hn) gL_law_L_all rfl hdL_all ⟨Nat.le_of_ble_eq_true rfl, Nat.le_of_ble_eq_true rfl⟩ ([] : va_W) (gC G o v) hH (by simp only [List.nil_append, List.append_nil]) rfl hl.1 (Nat.le_of_ble_eq_true rfl) dL_law_145 ⟨(by show 100 + 60 * kk + 0 + 0 + 0 + 0 + 0 + 0 + 0 ≤ 600104; omega), (by show 2000 + 1500 * kk + 0 + 0 + 0 + 0 + 0 + 0 + 0 ≤ 7301314; omega)⟩ rfl (fun H locs hH => ?_)
          refine lv_lstore (lv' := [(11, .long (allS n t fd wf wa)), (10, .int (nI n)), (9, .int (someV x9 16)), (8, .int od), (7, .int z9), (6, .int x9), (5, .int (nI kk)), (4, .int fl), (3, .int 1), (2, .ref o), (1, .ref (q 0)), (0, .ref b)]) hx hb dL_law_148 hl (by decide) rfl (fun ls hl => ?_)
          refine lv_aload_n hx hb dL_law_150 rfl (lv_at hl 10 rfl) ?_
          refine lv_iconst (v := 0) hx hb dL_law_151 (by decide) ?_
          refine lv_iconst (v := 0) hx hb dL_law_152 (by decide) ?_
          refine lv_iconst (v := 0) hx hb dL_law_153 (by decide) ?_
          refine lv_iconst (v := 0) hx hb dL_law_154 (by decide) ?_
          refine lv_iconst (v := 0) hx hb dL_law_155 (by decide) ?_
          refine callLI (rest := []) F (k_add_2 l hst G q n nc t fl fd k wd wf wa cd cf 0 0 (Or.inl (by decide)) 0 0 0 (Or.inr ⟨by decide, rfl⟩)) gL_law_L_call rfl hdL_call ⟨Nat.le_of_ble_eq_true rfl, Nat.le_of_ble_eq_true rfl⟩ ([] : va_W) (gC G o v) hH (by simp only [List.nil_append, List.append_nil]) rfl hl.1 (Nat.le_of_ble_eq_true rfl) dL_law_156 ⟨(by show 100 + 60 * kk + 0 + 0 + 0 + 0 + 0 + 0 + 0 + 1 ≤ 600104; omega), (by show 2000 + 1500 * kk + 0 + 0 + 0 + 0 + 0 + 0 + 0 + 6 ≤ 7301314; omega)⟩ rfl (fun u H locs hH => ?_)
          rw [List.nil_append] at hH
          have hH : HH G A s (sW G q n nc t fl fd k wd wf wa cd cf ++ gC G o v) H locs := hH
          refine lv_bipush (v := (-62)) hx hb dL_law_159 (by decide) ?_
          refine lv_icmp_ne (tgt := 254) hx hb dL_law_161 (by decide) (fun c_161 => absurd rfl c_161) (fun c_161 => ?_)
          refine lv_aload_n hx hb dL_law_164 rfl (lv_at hl 10 rfl) ?_
          refine lv_iconst (v := 0) hx hb dL_law_165 (by decide) ?_
          refine lv_ldc hx hb F.1.2.2.2.1 (F.1.2.2.2.2 (.constant RL 116 100001) (by decide +kernel)) dL_law_166 ?_
          refine lv_iconst (v := 1) hx hb dL_law_168 (by decide) ?_
          refine lv_iconst (v := 0) hx hb dL_law_169 (by decide) ?_
          refine lv_iconst (v := 0) hx hb dL_law_170 (by decide) ?_
          refine callLI (rest := []) F (k_add_2 l hst G q n nc t fl fd k wd wf wa cd cf 100001 1 (Or.inr (by decide)) 1 0 0 (Or.inl ⟨rfl, rfl⟩)) gL_law_L_call rfl hdL_call ⟨Nat.le_of_ble_eq_true rfl, Nat.le_of_ble_eq_true rfl⟩ ([] : va_W) (gC G o v) hH (by simp only [List.nil_append, List.append_nil]) rfl hl.1 (Nat.le_of_ble_eq_true rfl) dL_law_171 ⟨(by show 100 + 60 * kk + 0 + 0 + 0 + 0 + 0 + 0 + 0 + 1 + 1 ≤ 600104; omega), (by show 2000 + 1500 * kk + 0 + 0 + 0 + 0 + 0 + 0 + 0 + 6 + 6 ≤ 7301314; omega)⟩ rfl (fun u H locs hH => ?_)
          rw [List.nil_append] at hH
          have hH : HH G A s (sW G q n nc t fl fd k wd wf wa cd cf ++ gC G o v) H locs := hH
          refine lv_bipush (v := (-62)) hx hb dL_law_174 (by decide) ?_
          refine lv_icmp_ne (tgt := 254) hx hb dL_law_176 (by decide) (fun c_176 => absurd rfl c_176) (fun c_176 => ?_)
          refine lv_aload_n hx hb dL_law_179 rfl (lv_at hl 10 rfl) ?_
          refine callSL (rest := []) F (c_all l G q n nc t fl fd k wd wf wa cd cf hn) gL_law_L_all rfl hdL_all ⟨Nat.le_of_ble_eq_true rfl, Nat.le_of_ble_eq_true rfl⟩ ([] : va_W) (gC G o v) hH (by simp only [List.nil_append, List.append_nil]) rfl hl.1 (Nat.le_of_ble_eq_true rfl) dL_law_180 ⟨(by show 100 + 60 * kk + 0 + 0 + 0 + 0 + 0 + 0 + 0 + 1 + 1 + 0 ≤ 600104; omega), (by show 2000 + 1500 * kk + 0 + 0 + 0 + 0 + 0 + 0 + 0 + 6 + 6 + 0 ≤ 7301314; omega)⟩ rfl (fun H locs hH => ?_)
          refine lv_lload hx hb dL_law_183 (lv_at hl 0 rfl) ?_
          refine W.lcmp hx hb dL_law_185 ?_
          refine lv_if_ne (tgt := 254) hx hb dL_law_186 (by decide) (fun c_186 => absurd (lg_self _) c_186) (fun c_186 => ?_)
          refine lv_aload_n hx hb dL_law_189 rfl (lv_at hl 10 rfl) ?_
          refine lv_iconst (v := 1) hx hb dL_law_190 (by decide) ?_
          refine lv_iload hx hb dL_law_191 (lv_at hl 4 rfl) ?_
          refine lv_ldc hx hb F.1.2.2.2.1 (F.1.2.2.2.2 (.constant RL 117 100000) (by decide +kernel)) dL_law_193 ?_
          refine callSI (rest := [.int 1, .ref (q 0)]) F (c_some l G (sW G q n nc t fl fd k wd wf wa cd cf) z9 100000 (by decide)) gL_law_L_some rfl hdL_some ⟨Nat.le_of_ble_eq_true rfl, Nat.le_of_ble_eq_true rfl⟩ ([] : va_W) (gC G o v) hH (by simp only [List.nil_append, List.append_nil]) rfl hl.1 (Nat.le_of_ble_eq_true rfl) dL_law_195 ⟨(by show 100 + 60 * kk + 0 + 0 + 0 + 0 + 0 + 0 + 0 + 1 + 1 + 0 + 0 ≤ 600104; omega), (by show 2000 + 1500 * kk + 0 + 0 + 0 + 0 + 0 + 0 + 0 + 6 + 6 + 0 + 0 ≤ 7301314; omega)⟩ rfl (fun u H locs hH => ?_)
          rw [List.nil_append] at hH
          have hH : HH G A s (sW G q n nc t fl fd k wd wf wa cd cf ++ gC G o v) H locs := hH
          refine lv_iadd hx hb dL_law_198 ?_
          refine lv_iload hx hb dL_law_199 (lv_at hl 4 rfl) ?_
          refine lv_iconst (v := 3) hx hb dL_law_201 (by decide) ?_
          refine lv_ishr hx hb dL_law_202 ?_
          refine lv_iconst (v := 2) hx hb dL_law_203 (by decide) ?_
          refine callSI (rest := [.int (1 + (someV z9 100000)), .ref (q 0)]) F (c_some l G (sW G q n nc t fl fd k wd wf wa cd cf) (z9 >>> (3 &&& 31)) 2 (by decide)) gL_law_L_some rfl hdL_some ⟨Nat.le_of_ble_eq_true rfl, Nat.le_of_ble_eq_true rfl⟩ ([] : va_W) (gC G o v) hH (by simp only [List.nil_append, List.append_nil]) rfl hl.1 (Nat.le_of_ble_eq_true rfl) dL_law_204 ⟨(by show 100 + 60 * kk + 0 + 0 + 0 + 0 + 0 + 0 + 0 + 1 + 1 + 0 + 0 + 0 ≤ 600104; omega), (by show 2000 + 1500 * kk + 0 + 0 + 0 + 0 + 0 + 0 + 0 + 6 + 6 + 0 + 0 + 0 ≤ 7301314; omega)⟩ rfl (fun u H locs hH => ?_)
          rw [List.nil_append] at hH
          have hH : HH G A s (sW G q n nc t fl fd k wd wf wa cd cf ++ gC G o v) H locs := hH
          have j215 : ∀ (bo : Int32) (hbo : bo = 0 ∨ bo = 1) (H : Heap) (locs : List Loc) (ls : Array Slot), HH G A s (sW G q n nc t fl fd k wd wf wa cd cf ++ gC G o v) H locs → lv_has ls 13 [(11, .long (allS n t fd wf wa)), (10, .int (nI n)), (9, .int (someV x9 16)), (8, .int od), (7, .int z9), (6, .int x9), (5, .int (nI kk)), (4, .int fl), (3, .int 1), (2, .ref o), (1, .ref (q 0)), (0, .ref b)] → W p l e room_1 s m #[Value.ref b] below meth c H locs (100 + 60 * kk + 0 + 0 + 0 + 0 + 0 + 0 + 0 + 1 + 1 + 0 + 0 + 0) (2000 + 1500 * kk + 0 + 0 + 0 + 0 + 0 + 0 + 0 + 6 + 6 + 0 + 0 + 0) (lw_Z below #[Value.ref b] s) (F0 m 215 ls [.int bo, .int (1 + someV z9 100000), .ref (q 0)]) := by
            intro bo hbo H locs ls hH hl
            refine callVI (rest := []) F (c_X2_add_1 l G q n nc t fl fd k wd wf wa cd cf hn8 (1 + someV z9 100000) bo (by rw [e1]; exact nI_1le (by omega) (by omega)) (by rw [e1]; exact nI_le (b := 100000) (by omega) (by decide)) hbo) gL_law_X2_add rfl hdX2_add ⟨Nat.le_of_ble_eq_true rfl, Nat.le_of_ble_eq_true rfl⟩ ([] : va_W) (gC G o v) hH (by simp only [List.nil_append, List.append_nil]) ⟨0, 2, _, _, rfl, rfl, rfl⟩ rfl hl.1 (Nat.le_of_ble_eq_true rfl) dL_law_215 ⟨(by show 100 + 60 * kk + 0 + 0 + 0 + 0 + 0 + 0 + 0 + 1 + 1 + 0 + 0 + 0 + 7 ≤ 600104; omega), (by show 2000 + 1500 * kk + 0 + 0 + 0 + 0 + 0 + 0 + 0 + 6 + 6 + 0 + 0 + 0 + 1218 ≤ 7301314; omega)⟩ rfl (fun u H locs hH => ?_)
            rw [List.nil_append] at hH
            have hH : HH G A s (sW G q (n + 1) nc t fl fd k (va_up wd n u) (va_up wf n (va_up (va_up (fun _ => 0) 0 (1 + someV z9 100000)) 1 bo)) (va_up wa n (fun _ _ => 0)) cd cf ++ gC G o v) H locs := hH
            have hI2 := IN_add (p := 1 + pj) (w := bo) hI hn8 (by omega) (by omega) e1
            have hf2 : ∀ r, r ≠ 0 → r ≠ 1 → (va_up wf n (va_up (va_up (fun _ => 0) 0 (1 + someV z9 100000)) 1 bo)) n r = 0 := fun r h0 h1 => by rw [va_up_self, va_up_ne _ _ h1, va_up_ne _ _ h0]
            obtain ⟨wd2, hwd2⟩ : ∃ x9, x9 = va_up wd n u := ⟨_, rfl⟩
            obtain ⟨wf2, hwf2⟩ : ∃ x9, x9 = va_up wf n (va_up (va_up (fun _ => 0) 0 (1 + someV z9 100000)) 1 bo) := ⟨_, rfl⟩
            obtain ⟨wa2, hwa2⟩ : ∃ x9, x9 = va_up wa n (fun _ _ => 0) := ⟨_, rfl⟩
            rw [← hwd2, ← hwf2, ← hwa2] at hH
            rw [← hwf2, ← hwa2] at hI2
            rw [← hwf2] at hf2
            have hn9 : n + 1 ≤ 8 := hn8
            have hin : n < n + 1 := Nat.lt_succ_self n
            clear hwd2 hwf2 hwa2
            refine lv_iload hx hb dL_law_218 (lv_at hl 1 rfl) ?_
            refine lv_icmp_ne (tgt := 254) hx hb dL_law_220 (by decide) (fun c_220 => absurd rfl c_220) (fun c_220 => ?_)
            refine lv_aload_n hx hb dL_law_223 rfl (lv_at hl 10 rfl) ?_
            refine lv_iload hx hb dL_law_224 (lv_at hl 1 rfl) ?_
            refine callVI (rest := []) F (c_X2_net_1 l G q (n + 1) nc t fl fd k wd2 wf2 wa2 cd cf hn9 n hin) gL_law_X2_net rfl hdX2_net ⟨Nat.le_of_ble_eq_true rfl, Nat.le_of_ble_eq_true rfl⟩ ([] : va_W) (gC G o v) hH (by simp only [List.nil_append, List.append_nil]) ⟨0, 2, _, _, rfl, rfl, rfl⟩ rfl hl.1 (Nat.le_of_ble_eq_true rfl) dL_law_226 ⟨(by show 100 + 60 * kk + 0 + 0 + 0 + 0 + 0 + 0 + 0 + 1 + 1 + 0 + 0 + 0 + 7 + 0 ≤ 600104; omega), (by show 2000 + 1500 * kk + 0 + 0 + 0 + 0 + 0 + 0 + 0 + 6 + 6 + 0 + 0 + 0 + 1218 + 0 ≤ 7301314; omega)⟩ rfl (fun u H locs hH => ?_)
            rw [List.nil_append] at hH
            have hH : HH G A s (sW G q (n + 1) nc t fl fd k wd2 wf2 wa2 cd cf ++ gC G o v) H locs := hH
            refine lv_if_ne (tgt := 254) hx hb dL_law_229 (by decide) (fun c_229 => absurd (by rw [hf2 10 (by decide) (by decide), hf2 11 (by decide) (by decide)]; rfl) c_229) (fun c_229 => ?_)
            refine lv_aload_n hx hb dL_law_232 rfl (lv_at hl 10 rfl) ?_
            refine lv_iload hx hb dL_law_233 (lv_at hl 1 rfl) ?_
            refine callVI (rest := []) F (c_X2_owes_1 l G q (n + 1) nc t fl fd k wd2 wf2 wa2 cd cf hn9 n hin) gL_law_X2_owes rfl hdX2_owes ⟨Nat.le_of_ble_eq_true rfl, Nat.le_of_ble_eq_true rfl⟩ ([] : va_W) (gC G o v) hH (by simp only [List.nil_append, List.append_nil]) ⟨0, 2, _, _, rfl, rfl, rfl⟩ rfl hl.1 (Nat.le_of_ble_eq_true rfl) dL_law_235 ⟨(by show 100 + 60 * kk + 0 + 0 + 0 + 0 + 0 + 0 + 0 + 1 + 1 + 0 + 0 + 0 + 7 + 0 + 0 ≤ 600104; omega), (by show 2000 + 1500 * kk + 0 + 0 + 0 + 0 + 0 + 0 + 0 + 6 + 6 + 0 + 0 + 0 + 1218 + 0 + 0 ≤ 7301314; omega)⟩ rfl (fun u H locs hH => ?_)
            rw [List.nil_append] at hH
            have hH : HH G A s (sW G q (n + 1) nc t fl fd k wd2 wf2 wa2 cd cf ++ gC G o v) H locs := hH
            refine lv_if_ne (tgt := 254) hx hb dL_law_238 (by decide) (fun c_238 => absurd (hf2 11 (by decide) (by decide)) c_238) (fun c_238 => ?_)
            refine lv_aload_n hx hb dL_law_241 rfl (lv_at hl 10 rfl) ?_
            refine lv_iload hx hb dL_law_242 (lv_at hl 1 rfl) ?_
            refine callVI (rest := []) F (c_X2_cutWeeks_1 l G q (n + 1) nc t fl fd k wd2 wf2 wa2 cd cf hn9 n hin) gL_law_X2_cutWeeks rfl hdX2_cutWeeks ⟨Nat.le_of_ble_eq_true rfl, Nat.le_of_ble_eq_true rfl⟩ ([] : va_W) (gC G o v) hH (by simp only [List.nil_append, List.append_nil]) ⟨0, 2, _, _, rfl, rfl, rfl⟩ rfl hl.1 (Nat.le_of_ble_eq_true rfl) dL_law_244 ⟨(by show 100 + 60 * kk + 0 + 0 + 0 + 0 + 0 + 0 + 0 + 1 + 1 + 0 + 0 + 0 + 7 + 0 + 0 + 0 ≤ 600104; omega), (by show 2000 + 1500 * kk + 0 + 0 + 0 + 0 + 0 + 0 + 0 + 6 + 6 + 0 + 0 + 0 + 1218 + 0 + 0 + 0 ≤ 7301314; omega)⟩ rfl (fun u H locs hH => ?_)
            rw [List.nil_append] at hH
            have hH : HH G A s (sW G q (n + 1) nc t fl fd k wd2 wf2 wa2 cd cf ++ gC G o v) H locs := hH
            refine lv_if_ne (tgt := 254) hx hb dL_law_247 (by decide) (fun c_247 => absurd (hf2 9 (by decide) (by decide)) c_247) (fun c_247 => ?_)
            refine lv_iconst (v := 1) hx hb dL_law_250 (by decide) ?_
            refine lv_goto (tgt := 255) hx hb dL_law_251 (by decide) ?_
            refine lv_istore_n (lv' := [(3, .int 1), (11, .long (allS n t fd wf wa)), (10, .int (nI n)), (9, .int (someV x9 16)), (8, .int od), (7, .int z9), (6, .int x9), (5, .int (nI kk)), (4, .int fl), (2, .ref o), (1, .ref (q 0)), (0, .ref b)]) hx hb dL_law_255 rfl hl (by decide) rfl (fun ls hl => ?_)
            refine lv_goto (tgt := 389) hx hb dL_law_256 (by decide) ?_
            refine W.widen (k := 100 + 60 * kk + 20) (n := 2000 + 1500 * kk + 1260) (by show 100 + 60 * kk + 0 + 0 + 0 + 0 + 0 + 0 + 0 + 1 + 1 + 0 + 0 + 0 + 7 + 0 + 0 + 0 ≤ 100 + 60 * kk + 20; omega) (by show 2000 + 1500 * kk + 0 + 0 + 0 + 0 + 0 + 0 + 0 + 6 + 6 + 0 + 0 + 0 + 1218 + 0 + 0 + 0 ≤ 2000 + 1500 * kk + 1260; omega) ?_
            exact j389 nc fl _ v hv ⟨n + 1, t, fd, k, wd2, wf2, wa2, cd, cf, rfl, hI2⟩ _ _ _ hH (lv_sub hl [0, 8, 7, 6, 5, 9, 10, 11] rfl)
          refine lv_if_ne (tgt := 214) hx hb dL_law_207 (by decide) (fun c_207 => ?_) (fun c_207 => ?_)
          · refine lv_iconst (v := 0) hx hb dL_law_214 (by decide) ?_
            exact j215 0 (Or.inl rfl) _ _ _ hH (lv_sub hl [0, 1, 2, 3, 4, 5, 6, 7, 8, 9, 10, 11] rfl)
          · refine lv_iconst (v := 1) hx hb dL_law_210 (by decide) ?_
            refine lv_goto (tgt := 215) hx hb dL_law_211 (by decide) ?_
            exact j215 1 (Or.inr rfl) _ _ _ hH (lv_sub hl [0, 1, 2, 3, 4, 5, 6, 7, 8, 9, 10, 11] rfl)
        have j259 : ∀  (H : Heap) (locs : List Loc) (ls : Array Slot), HH G A s (sW G q n nc t fl fd k wd wf wa cd cf ++ gC G o v) H locs → lv_has ls 13 [(9, .int (someV x9 16)), (8, .int od), (7, .int z9), (6, .int x9), (5, .int (nI kk)), (4, .int fl), (3, .int 1), (2, .ref o), (1, .ref (q 0)), (0, .ref b)] → W p l e room_1 s m #[Value.ref b] below meth c H locs (100 + 60 * kk + 1) (2000 + 1500 * kk + 1) (lw_Z below #[Value.ref b] s) (F0 m 259 ls []) := by
          intro  H locs ls hH hl
          refine lv_iload hx hb dL_law_259 (lv_at hl 0 rfl) ?_
          refine lv_iconst (v := 5) hx hb dL_law_261 (by decide) ?_
          refine lv_icmp_ge (tgt := 281) hx hb dL_law_262 (by decide) (fun c_262 => ?_) (fun c_262 => ?_)
          · refine lv_iload hx hb dL_law_281 (lv_at hl 0 rfl) ?_
            refine lv_bipush (v := 7) hx hb dL_law_283 (by decide) ?_
            refine lv_icmp_ge (tgt := 305) hx hb dL_law_285 (by decide) (fun c_285 => ?_) (fun c_285 => ?_)
            · refine lv_iload hx hb dL_law_305 (lv_at hl 0 rfl) ?_
              refine lv_bipush (v := 11) hx hb dL_law_307 (by decide) ?_
              refine lv_icmp_ge (tgt := 322) hx hb dL_law_309 (by decide) (fun c_309 => ?_) (fun c_309 => ?_)
              · refine lv_iload hx hb dL_law_322 (lv_at hl 0 rfl) ?_
                refine lv_bipush (v := 15) hx hb dL_law_324 (by decide) ?_
                refine lv_icmp_ge (tgt := 345) hx hb dL_law_326 (by decide) (fun c_326 => ?_) (fun c_326 => ?_)
                · refine lv_iload hx hb dL_law_345 (lv_at hl 2 rfl) ?_
                  refine lv_bipush (v := 101) hx hb dL_law_347 (by decide) ?_
                  refine callSI (rest := []) F (c_some l G (sW G q n nc t fl fd k wd wf wa cd cf) z9 101 (by decide)) gL_law_L_some rfl hdL_some ⟨Nat.le_of_ble_eq_true rfl, Nat.le_of_ble_eq_true rfl⟩ ([] : va_W) (gC G o v) hH (by simp only [List.nil_append, List.append_nil]) rfl hl.1 (Nat.le_of_ble_eq_true rfl) dL_law_349 ⟨(by show 100 + 60 * kk + 1 + 0 ≤ 600104; omega), (by show 2000 + 1500 * kk + 1 + 0 ≤ 7301314; omega)⟩ rfl (fun u H locs hH => ?_)
                  rw [List.nil_append] at hH
                  have hH : HH G A s (sW G q n nc t fl fd k wd wf wa cd cf ++ gC G o v) H locs := hH
                  obtain ⟨pj, hpj, epj⟩ := someV_lt z9 (n := 101) (by decide) (by decide)
                  have epj : someV z9 101 = nI pj := epj
                  have hI2 := IN_floor hI (fl2 := someV z9 101) ⟨pj, by omega, epj⟩
                  refine lv_istore (lv' := [(10, .int (someV z9 101)), (9, .int (someV x9 16)), (8, .int od), (7, .int z9), (6, .int x9), (5, .int (nI kk)), (4, .int fl), (3, .int 1), (2, .ref o), (1, .ref (q 0)), (0, .ref b)]) hx hb dL_law_352 hl (by decide) rfl (fun ls hl => ?_)
                  refine lv_aload_n hx hb dL_law_354 rfl (lv_at hl 9 rfl) ?_
                  refine lv_iload hx hb dL_law_355 (lv_at hl 0 rfl) ?_
                  refine callVI (rest := []) F (c_X2_setFloor_1 l G q n nc t fl fd k wd wf wa cd cf (someV z9 101) (by rw [epj]; exact nI_0le (by omega)) (by rw [epj]; exact nI_le (b := 100) (by omega) (by decide))) gL_law_X2_setFloor rfl hdX2_setFloor ⟨Nat.le_of_ble_eq_true rfl, Nat.le_of_ble_eq_true rfl⟩ ([] : va_W) (gC G o v) hH (by simp only [List.nil_append, List.append_nil]) ⟨0, 2, _, _, rfl, rfl, rfl⟩ rfl hl.1 (Nat.le_of_ble_eq_true rfl) dL_law_357 ⟨(by show 100 + 60 * kk + 1 + 0 + 0 ≤ 600104; omega), (by show 2000 + 1500 * kk + 1 + 0 + 0 ≤ 7301314; omega)⟩ rfl (fun u H locs hH => ?_)
                  rw [List.nil_append] at hH
                  have hH : HH G A s (sW G q n nc t (someV z9 101) fd k wd wf wa cd cf ++ gC G o v) H locs := hH
                  refine lv_iload hx hb dL_law_360 (lv_at hl 6 rfl) ?_
                  refine lv_icmp_ne (tgt := 383) hx hb dL_law_362 (by decide) (fun c_362 => absurd rfl c_362) (fun c_362 => ?_)
                  refine lv_aload_n hx hb dL_law_365 rfl (lv_at hl 9 rfl) ?_
                  refine lv_iconst (v := 4) hx hb dL_law_366 (by decide) ?_
                  refine lv_iconst (v := (-1)) hx hb dL_law_367 (by decide) ?_
                  refine lv_iconst (v := 0) hx hb dL_law_368 (by decide) ?_
                  refine lv_iconst (v := 0) hx hb dL_law_369 (by decide) ?_
                  refine lv_iconst (v := 0) hx hb dL_law_370 (by decide) ?_
                  refine callLI (rest := []) F (k_setFloor_2 l hst G q n nc t (someV z9 101) fd k wd wf wa cd cf (-1) (Or.inl (by decide)) 0 0 0) gL_law_L_call rfl hdL_call ⟨Nat.le_of_ble_eq_true rfl, Nat.le_of_ble_eq_true rfl⟩ ([] : va_W) (gC G o v) hH (by simp only [List.nil_append, List.append_nil]) rfl hl.1 (Nat.le_of_ble_eq_true rfl) dL_law_371 ⟨(by show 100 + 60 * kk + 1 + 0 + 0 + 1 ≤ 600104; omega), (by show 2000 + 1500 * kk + 1 + 0 + 0 + 6 ≤ 7301314; omega)⟩ rfl (fun u H locs hH => ?_)
                  rw [List.nil_append] at hH
                  have hH : HH G A s (sW G q n nc t (someV z9 101) fd k wd wf wa cd cf ++ gC G o v) H locs := hH
                  refine lv_bipush (v := (-62)) hx hb dL_law_374 (by decide) ?_
                  refine lv_icmp_ne (tgt := 383) hx hb dL_law_376 (by decide) (fun c_376 => absurd rfl c_376) (fun c_376 => ?_)
                  refine lv_iconst (v := 1) hx hb dL_law_379 (by decide) ?_
                  refine lv_goto (tgt := 384) hx hb dL_law_380 (by decide) ?_
                  refine lv_istore_n (lv' := [(3, .int 1), (10, .int (someV z9 101)), (9, .int (someV x9 16)), (8, .int od), (7, .int z9), (6, .int x9), (5, .int (nI kk)), (4, .int fl), (2, .ref o), (1, .ref (q 0)), (0, .ref b)]) hx hb dL_law_384 rfl hl (by decide) rfl (fun ls hl => ?_)
                  refine lv_iload hx hb dL_law_385 (lv_at hl 1 rfl) ?_
                  refine lv_istore (lv' := [(4, .int (someV z9 101)), (3, .int 1), (10, .int (someV z9 101)), (9, .int (someV x9 16)), (8, .int od), (7, .int z9), (6, .int x9), (5, .int (nI kk)), (2, .ref o), (1, .ref (q 0)), (0, .ref b)]) hx hb dL_law_387 hl (by decide) rfl (fun ls hl => ?_)
                  refine W.widen (k := 100 + 60 * kk + 20) (n := 2000 + 1500 * kk + 1260) (by show 100 + 60 * kk + 1 + 0 + 0 + 1 ≤ 100 + 60 * kk + 20; omega) (by show 2000 + 1500 * kk + 1 + 0 + 0 + 6 ≤ 2000 + 1500 * kk + 1260; omega) ?_
                  exact j389 nc (someV z9 101) _ v hv ⟨n, t, fd, k, wd, wf, wa, cd, cf, rfl, hI2⟩ _ _ _ hH (lv_sub hl [1, 0, 7, 6, 5, 8, 9, 10] rfl)
                · refine lv_aload_n hx hb dL_law_329 rfl (lv_at hl 8 rfl) ?_
                  refine lv_iload hx hb dL_law_330 (lv_at hl 3 rfl) ?_
                  refine lv_iconst (v := 4) hx hb dL_law_332 (by decide) ?_
                  refine lv_ishr hx hb dL_law_333 ?_
                  refine lv_iload hx hb dL_law_334 (lv_at hl 2 rfl) ?_
                  refine lv_iload hx hb dL_law_336 (lv_at hl 1 rfl) ?_
                  refine callSP (rest := []) F (c_checks l hst G q n nc t fl fd k wd wf wa cd cf (x9 >>> (4 &&& 31)) z9 od hI) gL_law_L_checks rfl hdL_checks ⟨Nat.le_of_ble_eq_true rfl, Nat.le_of_ble_eq_true rfl⟩ ([] : va_W) (gC G o v) hH (by simp only [List.nil_append, List.append_nil]) rfl hl.1 (Nat.le_of_ble_eq_true rfl) dL_law_338 ⟨(by show 100 + 60 * kk + 1 + 8 ≤ 600104; omega), (by show 2000 + 1500 * kk + 1 + 48 ≤ 7301314; omega)⟩ rfl (fun r9 w9 H locs hP9 hH => ?_)
                  rw [List.nil_append] at hH
                  obtain ⟨rfl, hS3⟩ := hP9
                  have hH : HH G A s (w9 ++ gC G o v) H locs := hH
                  refine lv_istore_n (lv' := [(3, .int 1), (9, .int (someV x9 16)), (8, .int od), (7, .int z9), (6, .int x9), (5, .int (nI kk)), (4, .int fl), (2, .ref o), (1, .ref (q 0)), (0, .ref b)]) hx hb dL_law_341 rfl hl (by decide) rfl (fun ls hl => ?_)
                  refine lv_goto (tgt := 389) hx hb dL_law_342 (by decide) ?_
                  refine W.widen (k := 100 + 60 * kk + 20) (n := 2000 + 1500 * kk + 1260) (by show 100 + 60 * kk + 1 + 8 ≤ 100 + 60 * kk + 20; omega) (by show 2000 + 1500 * kk + 1 + 48 ≤ 2000 + 1500 * kk + 1260; omega) ?_
                  exact j389 nc fl w9 v hv hS3 _ _ _ hH (lv_sub hl [0, 6, 5, 4, 3, 7, 8, 9] rfl)
              · refine lv_aload_n hx hb dL_law_312 rfl (lv_at hl 8 rfl) ?_
                refine lv_iload hx hb dL_law_313 (lv_at hl 2 rfl) ?_
                refine callSP (rest := []) F (c_passes l hst G q n nc t fl fd k wd wf wa cd cf z9 hI) gL_law_L_passes rfl hdL_passes ⟨Nat.le_of_ble_eq_true rfl, Nat.le_of_ble_eq_true rfl⟩ ([] : va_W) (gC G o v) hH (by simp only [List.nil_append, List.append_nil]) rfl hl.1 (Nat.le_of_ble_eq_true rfl) dL_law_315 ⟨(by show 100 + 60 * kk + 1 + 4 ≤ 600104; omega), (by show 2000 + 1500 * kk + 1 + 24 ≤ 7301314; omega)⟩ rfl (fun r9 w9 H locs hP9 hH => ?_)
                rw [List.nil_append] at hH
                obtain ⟨rfl, hS3⟩ := hP9
                have hH : HH G A s (w9 ++ gC G o v) H locs := hH
                refine lv_istore_n (lv' := [(3, .int 1), (9, .int (someV x9 16)), (8, .int od), (7, .int z9), (6, .int x9), (5, .int (nI kk)), (4, .int fl), (2, .ref o), (1, .ref (q 0)), (0, .ref b)]) hx hb dL_law_318 rfl hl (by decide) rfl (fun ls hl => ?_)
                refine lv_goto (tgt := 389) hx hb dL_law_319 (by decide) ?_
                refine W.widen (k := 100 + 60 * kk + 20) (n := 2000 + 1500 * kk + 1260) (by show 100 + 60 * kk + 1 + 4 ≤ 100 + 60 * kk + 20; omega) (by show 2000 + 1500 * kk + 1 + 24 ≤ 2000 + 1500 * kk + 1260; omega) ?_
                exact j389 nc fl w9 v hv hS3 _ _ _ hH (lv_sub hl [0, 6, 5, 4, 3, 7, 8, 9] rfl)
            · refine lv_aload_n hx hb dL_law_288 rfl (lv_at hl 8 rfl) ?_
              refine lv_aload_n hx hb dL_law_289 rfl (lv_at hl 7 rfl) ?_
              refine lv_iload hx hb dL_law_290 (lv_at hl 3 rfl) ?_
              refine lv_iconst (v := 4) hx hb dL_law_292 (by decide) ?_
              refine lv_ishr hx hb dL_law_293 ?_
              refine lv_iload hx hb dL_law_294 (lv_at hl 2 rfl) ?_
              refine lv_iload hx hb dL_law_296 (lv_at hl 1 rfl) ?_
              refine callSP (rest := []) F (c_courses l hst G q n nc t fl fd k wd wf wa cd cf hI o v hv (x9 >>> (4 &&& 31)) z9 od) gL_law_L_courses rfl hdL_courses ⟨Nat.le_of_ble_eq_true rfl, Nat.le_of_ble_eq_true rfl⟩ ([] : va_W) ([] : va_W) hH (by simp only [List.nil_append, List.append_nil]) rfl hl.1 (Nat.le_of_ble_eq_true rfl) dL_law_298 ⟨(by show 100 + 60 * kk + 1 + 4 ≤ 600104; omega), (by show 2000 + 1500 * kk + 1 + 24 ≤ 7301314; omega)⟩ rfl (fun r9 w9 H locs hP9 hH => ?_)
              rw [List.nil_append, List.append_nil] at hH
              obtain ⟨rfl, nc3, v3, w3, rfl, hv3, hS3⟩ := hP9
              have hH : HH G A s (w3 ++ gC G o v3) H locs := hH
              refine lv_istore_n (lv' := [(3, .int 1), (9, .int (someV x9 16)), (8, .int od), (7, .int z9), (6, .int x9), (5, .int (nI kk)), (4, .int fl), (2, .ref o), (1, .ref (q 0)), (0, .ref b)]) hx hb dL_law_301 rfl hl (by decide) rfl (fun ls hl => ?_)
              refine lv_goto (tgt := 389) hx hb dL_law_302 (by decide) ?_
              refine W.widen (k := 100 + 60 * kk + 20) (n := 2000 + 1500 * kk + 1260) (by show 100 + 60 * kk + 1 + 4 ≤ 100 + 60 * kk + 20; omega) (by show 2000 + 1500 * kk + 1 + 24 ≤ 2000 + 1500 * kk + 1260; omega) ?_
              exact j389 nc3 fl w3 v3 hv3 hS3 _ _ _ hH (lv_sub hl [0, 6, 5, 4, 3, 7, 8, 9] rfl)
          · refine lv_aload_n hx hb dL_law_265 rfl (lv_at hl 8 rfl) ?_
            refine lv_iload hx hb dL_law_266 (lv_at hl 3 rfl) ?_
            refine lv_iconst (v := 4) hx hb dL_law_268 (by decide) ?_
            refine lv_ishr hx hb dL_law_269 ?_
            refine lv_iload hx hb dL_law_270 (lv_at hl 2 rfl) ?_
            refine lv_iload hx hb dL_law_272 (lv_at hl 1 rfl) ?_
            refine callSP (rest := []) F (c_notices l hst G q n nc t fl fd k wd wf wa cd cf (x9 >>> (4 &&& 31)) z9 od hI) gL_law_L_notices rfl hdL_notices ⟨Nat.le_of_ble_eq_true rfl, Nat.le_of_ble_eq_true rfl⟩ ([] : va_W) (gC G o v) hH (by simp only [List.nil_append, List.append_nil]) rfl hl.1 (Nat.le_of_ble_eq_true rfl) dL_law_274 ⟨(by show 100 + 60 * kk + 1 + 4 ≤ 600104; omega), (by show 2000 + 1500 * kk + 1 + 24 ≤ 7301314; omega)⟩ rfl (fun r9 w9 H locs hP9 hH => ?_)
            rw [List.nil_append] at hH
            obtain ⟨rfl, hS3⟩ := hP9
            have hH : HH G A s (w9 ++ gC G o v) H locs := hH
            refine lv_istore_n (lv' := [(3, .int 1), (9, .int (someV x9 16)), (8, .int od), (7, .int z9), (6, .int x9), (5, .int (nI kk)), (4, .int fl), (2, .ref o), (1, .ref (q 0)), (0, .ref b)]) hx hb dL_law_277 rfl hl (by decide) rfl (fun ls hl => ?_)
            refine lv_goto (tgt := 389) hx hb dL_law_278 (by decide) ?_
            refine W.widen (k := 100 + 60 * kk + 20) (n := 2000 + 1500 * kk + 1260) (by show 100 + 60 * kk + 1 + 4 ≤ 100 + 60 * kk + 20; omega) (by show 2000 + 1500 * kk + 1 + 24 ≤ 2000 + 1500 * kk + 1260; omega) ?_
            exact j389 nc fl w9 v hv hS3 _ _ _ hH (lv_sub hl [0, 6, 5, 4, 3, 7, 8, 9] rfl)
        refine lv_icmp_lt (tgt := 138) hx hb dL_law_122 (by decide) (fun c_122 => ?_) (fun c_122 => ?_)
        · exact j138 (by have := (nI_ltI (b := 2) (by omega) (by decide)).mp c_122; omega) _ _ _ hH (lv_sub hl [0, 1, 2, 3, 4, 5, 6, 7, 8, 9] rfl)
        · refine lv_iload hx hb dL_law_125 (lv_at hl 0 rfl) ?_
          refine lv_if_ne (tgt := 259) hx hb dL_law_127 (by decide) (fun c_127 => ?_) (fun c_127 => ?_)
          · refine W.widen (k := 100 + 60 * kk + 1) (n := 2000 + 1500 * kk + 1) (by show 100 + 60 * kk + 0 + 0 + 0 + 0 + 0 ≤ 100 + 60 * kk + 1; omega) (by show 2000 + 1500 * kk + 0 + 0 + 0 + 0 + 0 ≤ 2000 + 1500 * kk + 1; omega) ?_
            exact j259  _ _ _ hH (lv_sub hl [0, 1, 2, 3, 4, 5, 6, 7, 8, 9] rfl)
          · refine lv_aload_n hx hb dL_law_130 rfl (lv_at hl 8 rfl) ?_
            refine callVI (rest := []) F (c_X2_workers l G q n nc t fl fd k wd wf wa cd cf) gL_law_X2_workers rfl hdX2_workers ⟨Nat.le_of_ble_eq_true rfl, Nat.le_of_ble_eq_true rfl⟩ ([] : va_W) (gC G o v) hH (by simp only [List.nil_append, List.append_nil]) ⟨0, 2, _, _, rfl, rfl, rfl⟩ rfl hl.1 (Nat.le_of_ble_eq_true rfl) dL_law_131 ⟨(by show 100 + 60 * kk + 0 + 0 + 0 + 0 + 0 + 0 ≤ 600104; omega), (by show 2000 + 1500 * kk + 0 + 0 + 0 + 0 + 0 + 0 ≤ 7301314; omega)⟩ rfl (fun u H locs hH => ?_)
            rw [List.nil_append] at hH
            have hH : HH G A s (sW G q n nc t fl fd k wd wf wa cd cf ++ gC G o v) H locs := hH
            refine lv_iconst (v := 4) hx hb dL_law_134 (by decide) ?_
            refine lv_icmp_ge (tgt := 259) hx hb dL_law_135 (by decide) (fun c_135 => ?_) (fun c_135 => ?_)
            · refine W.widen (k := 100 + 60 * kk + 1) (n := 2000 + 1500 * kk + 1) (by show 100 + 60 * kk + 0 + 0 + 0 + 0 + 0 + 0 ≤ 100 + 60 * kk + 1; omega) (by show 2000 + 1500 * kk + 0 + 0 + 0 + 0 + 0 + 0 ≤ 2000 + 1500 * kk + 1; omega) ?_
              exact j259  _ _ _ hH (lv_sub hl [0, 1, 2, 3, 4, 5, 6, 7, 8, 9] rfl)
            · refine W.widen (k := 100 + 60 * kk + 0 + 0 + 0 + 0 + 0) (n := 2000 + 1500 * kk + 0 + 0 + 0 + 0 + 0) (by show 100 + 60 * kk + 0 + 0 + 0 + 0 + 0 + 0 ≤ 100 + 60 * kk + 0 + 0 + 0 + 0 + 0; omega) (by show 2000 + 1500 * kk + 0 + 0 + 0 + 0 + 0 + 0 ≤ 2000 + 1500 * kk + 0 + 0 + 0 + 0 + 0; omega) ?_
              exact j138 (Nat.lt_of_not_le fun h9 => c_135 (nI_le (a := 4) (by omega) (by omega))) _ _ _ hH (lv_sub hl [0, 1, 2, 3, 4, 5, 6, 7, 8, 9] rfl)
      refine lv_if_ne (tgt := 105) hx hb dL_law_98 (by decide) (fun c_98 => ?_) (fun c_98 => ?_)
      · refine lv_iconst (v := 0) hx hb dL_law_105 (by decide) ?_
        exact j106 _ _ _ _ hH (lv_sub hl [0, 1, 2, 3, 4, 5, 6, 7] rfl)
      · refine lv_iconst (v := 1) hx hb dL_law_101 (by decide) ?_
        refine lv_goto (tgt := 106) hx hb dL_law_102 (by decide) ?_
        exact j106 _ _ _ _ hH (lv_sub hl [0, 1, 2, 3, 4, 5, 6, 7] rfl)
  exact lp
