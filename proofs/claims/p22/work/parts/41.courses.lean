set_option maxHeartbeats 8000000 in
set_option maxRecDepth 100000 in
theorem c_courses (l : Launch) (hst : l.stackTraces = false) (G : Gx) (q : Nat → Nat) (n nc t : Nat) (fl fd : Int32) (k : Nat → Int32) (wd : Nat → Nat → Nat) (wf : Nat → Nat → Int32) (wa : Nat → Nat → Nat → Int32) (cd : Nat → Nat) (cf : Nat → Nat → Int32) (hI : IN n nc t fl fd k wf wa cf) (o : Nat) (v : Nat → Int32) (hv : v 0 = nI nc) (x0 z0 od : Int32) : MP l yL_courses wsL_courses ({ frames := 10, cells := 4, slots := 24, locals := 240 } : Room) [.ref (q 0), .ref o, .int x0, .int z0, .int od] G (sW G q n nc t fl fd k wd wf wa cd cf ++ gC G o v) (PC G q o fl) := by
  refine ofMP (cc := cL_courses) (maxL := 15) (ret := (some .boolean)) (by decide) rfl (Nat.le_of_ble_eq_true rfl) (fun p e s m below meth c A ls F hr hnm hH hl => ?_)
  have F : Fx G p s m _ meth c cL_courses 15 wsL_courses RL A := F
  have hx := F.1.1
  have hb := F.1.2.1
  have hl : lv_has ls 15 [(0, .ref (q 0)), (1, .ref o), (2, .int x0), (3, .int z0), (4, .int od)] := hl
  have hn : n ≤ 8 := hI.1
  have hnc : nc ≤ 10 := hI.2.1
  have ht : t ≤ 201 := hI.2.2.1
  have hW := hI.2.2.2.2.1
  obtain ⟨d, D, hd1, hD, hd2, hd3⟩ := hI.2.2.2.2.2.2
  have hd4 := cntK_le k 201
  have hCI := hI.2.2.2.2.2.1
  refine lv_aload_n hx hb dL_courses_0 rfl (lv_at hl 0 rfl) ?_
  refine callSL (rest := []) F (c_all l G q n nc t fl fd k wd wf wa cd cf hn) gL_courses_L_all rfl hdL_all ⟨Nat.le_of_ble_eq_true rfl, Nat.le_of_ble_eq_true rfl⟩ ([] : va_W) (gC G o v) hH (by simp only [List.nil_append, List.append_nil]) rfl hl.1 (Nat.le_of_ble_eq_true rfl) dL_courses_1 ⟨(Nat.le_of_ble_eq_true rfl), (Nat.le_of_ble_eq_true rfl)⟩ rfl (fun H locs hH => ?_)
  refine lv_lstore (lv' := [(5, .long (allS n t fd wf wa)), (0, .ref (q 0)), (1, .ref o), (2, .int x0), (3, .int z0), (4, .int od)]) hx hb dL_courses_4 hl (by decide) rfl (fun ls hl => ?_)
  refine lv_aload_n hx hb dL_courses_6 rfl (lv_at hl 1 rfl) ?_
  refine callVI (rest := []) F (c_X2_workers l G q n nc t fl fd k wd wf wa cd cf) gL_courses_X2_workers rfl hdX2_workers ⟨Nat.le_of_ble_eq_true rfl, Nat.le_of_ble_eq_true rfl⟩ ([] : va_W) (gC G o v) hH (by simp only [List.nil_append, List.append_nil]) ⟨0, 2, _, _, rfl, rfl, rfl⟩ rfl hl.1 (Nat.le_of_ble_eq_true rfl) dL_courses_7 ⟨(Nat.le_of_ble_eq_true rfl), (Nat.le_of_ble_eq_true rfl)⟩ rfl (fun u H locs hH => ?_)
  rw [List.nil_append] at hH
  have hH : HH G A s (sW G q n nc t fl fd k wd wf wa cd cf ++ gC G o v) H locs := hH
  refine lv_istore (lv' := [(7, .int (nI n)), (5, .long (allS n t fd wf wa)), (0, .ref (q 0)), (1, .ref o), (2, .int x0), (3, .int z0), (4, .int od)]) hx hb dL_courses_10 hl (by decide) rfl (fun ls hl => ?_)
  refine lv_iload_n hx hb dL_courses_12 rfl (lv_at hl 4 rfl) ?_
  refine lv_iconst (v := 3) hx hb dL_courses_13 (by decide) ?_
  refine callSI (rest := []) F (c_some l G (sW G q n nc t fl fd k wd wf wa cd cf) x0 3 (by decide)) gL_courses_L_some rfl hdL_some ⟨Nat.le_of_ble_eq_true rfl, Nat.le_of_ble_eq_true rfl⟩ ([] : va_W) (gC G o v) hH (by simp only [List.nil_append, List.append_nil]) rfl hl.1 (Nat.le_of_ble_eq_true rfl) dL_courses_14 ⟨(Nat.le_of_ble_eq_true rfl), (Nat.le_of_ble_eq_true rfl)⟩ rfl (fun u H locs hH => ?_)
  rw [List.nil_append] at hH
  have hH : HH G A s (sW G q n nc t fl fd k wd wf wa cd cf ++ gC G o v) H locs := hH
  refine lv_if_ne (tgt := 280) hx hb dL_courses_17 (by decide) (fun c_17 => ?_) (fun c_17 => ?_)
  · refine lv_iload hx hb dL_courses_280 (lv_at hl 6 rfl) ?_
    have j317 : ∀ (w : Int32) (H : Heap) (locs : List Loc) (ls : Array Slot), HH G A s (sW G q n nc t fl fd k wd wf wa cd cf ++ gC G o v) H locs → lv_has ls 15 [(7, .int (nI n)), (5, .long (allS n t fd wf wa)), (0, .ref (q 0)), (1, .ref o), (2, .int x0), (3, .int z0), (4, .int od)] → W p l e ({ frames := 10, cells := 4, slots := 24, locals := 240 } : Room) s m [.ref (q 0), .ref o, .int x0, .int z0, .int od].toArray below meth c H locs (0 + 0 + 0 + 0) (0 + 0 + 0 + 0) (EnP G A below s [.ref (q 0), .ref o, .int x0, .int z0, .int od].toArray ({ frames := 10, cells := 4, slots := 24, locals := 240 } : Room) (PC G q o fl)) (F0 m 317 ls [.int w]) := by
      intro w H locs ls hH hl
      refine lv_istore (lv' := [(8, .int w), (7, .int (nI n)), (5, .long (allS n t fd wf wa)), (0, .ref (q 0)), (1, .ref o), (2, .int x0), (3, .int z0), (4, .int od)]) hx hb dL_courses_317 hl (by decide) rfl (fun ls hl => ?_)
      refine lv_iload hx hb dL_courses_319 (lv_at hl 7 rfl) ?_
      have j355 : ∀ (c9 : Int32) (H : Heap) (locs : List Loc) (ls : Array Slot), HH G A s (sW G q n nc t fl fd k wd wf wa cd cf ++ gC G o v) H locs → lv_has ls 15 [(8, .int w), (7, .int (nI n)), (5, .long (allS n t fd wf wa)), (0, .ref (q 0)), (1, .ref o), (2, .int x0), (3, .int z0), (4, .int od)] → W p l e ({ frames := 10, cells := 4, slots := 24, locals := 240 } : Room) s m [.ref (q 0), .ref o, .int x0, .int z0, .int od].toArray below meth c H locs (0 + 0 + 0 + 0) (0 + 0 + 0 + 0) (EnP G A below s [.ref (q 0), .ref o, .int x0, .int z0, .int od].toArray ({ frames := 10, cells := 4, slots := 24, locals := 240 } : Room) (PC G q o fl)) (F0 m 355 ls [.int c9]) := by
        intro c9 H locs ls hH hl
        rcases rgt w (n := n) (by omega) with hw | ⟨i, hi, hw⟩
        · refine lv_istore (lv' := [(9, .int c9), (8, .int w), (7, .int (nI n)), (5, .long (allS n t fd wf wa)), (0, .ref (q 0)), (1, .ref o), (2, .int x0), (3, .int z0), (4, .int od)]) hx hb dL_courses_355 hl (by decide) rfl (fun ls hl => ?_)
          refine lv_aload_n hx hb dL_courses_357 rfl (lv_at hl 4 rfl) ?_
          refine lv_iconst (v := 3) hx hb dL_courses_358 (by decide) ?_
          refine lv_iload hx hb dL_courses_359 (lv_at hl 1 rfl) ?_
          refine lv_iload hx hb dL_courses_361 (lv_at hl 0 rfl) ?_
          refine lv_iconst (v := 0) hx hb dL_courses_363 (by decide) ?_
          refine lv_iconst (v := 0) hx hb dL_courses_364 (by decide) ?_
          refine callLI (rest := []) F (k_enrol_0 l hst G q n nc t fl fd k wd wf wa cd cf hn w hw c9 0 0) gL_courses_L_call rfl hdL_call ⟨Nat.le_of_ble_eq_true rfl, Nat.le_of_ble_eq_true rfl⟩ ([] : va_W) (gC G o v) hH (by simp only [List.nil_append, List.append_nil]) rfl hl.1 (Nat.le_of_ble_eq_true rfl) dL_courses_365 ⟨(Nat.le_of_ble_eq_true rfl), (Nat.le_of_ble_eq_true rfl)⟩ rfl (fun u H locs hH => ?_)
          rw [List.nil_append] at hH
          have hH : HH G A s (sW G q n nc t fl fd k wd wf wa cd cf ++ gC G o v) H locs := hH
          refine lv_istore (lv' := [(10, .int (-61)), (9, .int c9), (8, .int w), (7, .int (nI n)), (5, .long (allS n t fd wf wa)), (0, .ref (q 0)), (1, .ref o), (2, .int x0), (3, .int z0), (4, .int od)]) hx hb dL_courses_368 hl (by decide) rfl (fun ls hl => ?_)
          refine lv_iload hx hb dL_courses_370 (lv_at hl 0 rfl) ?_
          refine lv_if_ge (tgt := 428) hx hb dL_courses_372 (by decide) (fun c_372 => absurd c_372 (by decide)) (fun c_372 => ?_)
          refine lv_aload_n hx hb dL_courses_375 rfl (lv_at hl 5 rfl) ?_
          refine callSL (rest := []) F (c_all l G q n nc t fl fd k wd wf wa cd cf hn) gL_courses_L_all rfl hdL_all ⟨Nat.le_of_ble_eq_true rfl, Nat.le_of_ble_eq_true rfl⟩ ([] : va_W) (gC G o v) hH (by simp only [List.nil_append, List.append_nil]) rfl hl.1 (Nat.le_of_ble_eq_true rfl) dL_courses_376 ⟨(Nat.le_of_ble_eq_true rfl), (Nat.le_of_ble_eq_true rfl)⟩ rfl (fun H locs hH => ?_)
          refine lv_lload hx hb dL_courses_379 (lv_at hl 4 rfl) ?_
          refine W.lcmp hx hb dL_courses_381 ?_
          refine lv_if_ne (tgt := 426) hx hb dL_courses_382 (by decide) (fun c_382 => absurd (lg_self _) c_382) (fun c_382 => ?_)
          refine lv_iload hx hb dL_courses_385 (lv_at hl 0 rfl) ?_
          refine lv_iload hx hb dL_courses_387 (lv_at hl 2 rfl) ?_
          refine lv_if_lt (tgt := 412) hx hb dL_courses_389 (by decide) (fun c_389 => ?_) (fun c_389 => ?_)
          · refine lv_bipush (v := (-61)) hx hb dL_courses_412 (by decide) ?_
            refine lv_goto (tgt := 419) hx hb dL_courses_414 (by decide) ?_
            refine lv_icmp_ne (tgt := 426) hx hb dL_courses_419 (by decide) (fun c_419 => absurd rfl c_419) (fun c_419 => ?_)
            refine lv_iconst (v := 1) hx hb dL_courses_422 (by decide) ?_
            refine lv_goto (tgt := 427) hx hb dL_courses_423 (by decide) ?_
            exact retP F hr rfl hH (PC_mk hv hI) (Nat.le_of_ble_eq_true rfl) (Nat.le_of_ble_eq_true rfl) dL_courses_427
          · refine lv_iload hx hb dL_courses_392 (lv_at hl 2 rfl) ?_
            refine lv_iload hx hb dL_courses_394 (lv_at hl 3 rfl) ?_
            refine lv_icmp_ge (tgt := 412) hx hb dL_courses_396 (by decide) (fun c_396 => ?_) (fun c_396 => absurd (hw.resolve_left c_389) c_396)
            refine lv_bipush (v := (-61)) hx hb dL_courses_412 (by decide) ?_
            refine lv_goto (tgt := 419) hx hb dL_courses_414 (by decide) ?_
            refine lv_icmp_ne (tgt := 426) hx hb dL_courses_419 (by decide) (fun c_419 => absurd rfl c_419) (fun c_419 => ?_)
            refine lv_iconst (v := 1) hx hb dL_courses_422 (by decide) ?_
            refine lv_goto (tgt := 427) hx hb dL_courses_423 (by decide) ?_
            exact retP F hr rfl hH (PC_mk hv hI) (Nat.le_of_ble_eq_true rfl) (Nat.le_of_ble_eq_true rfl) dL_courses_427
        · subst hw
          rcases rgt c9 (n := nc) (by omega) with hc | ⟨j, hj, hc⟩
          · refine lv_istore (lv' := [(9, .int c9), (8, .int (nI i)), (7, .int (nI n)), (5, .long (allS n t fd wf wa)), (0, .ref (q 0)), (1, .ref o), (2, .int x0), (3, .int z0), (4, .int od)]) hx hb dL_courses_355 hl (by decide) rfl (fun ls hl => ?_)
            refine lv_aload_n hx hb dL_courses_357 rfl (lv_at hl 4 rfl) ?_
            refine lv_iconst (v := 3) hx hb dL_courses_358 (by decide) ?_
            refine lv_iload hx hb dL_courses_359 (lv_at hl 1 rfl) ?_
            refine lv_iload hx hb dL_courses_361 (lv_at hl 0 rfl) ?_
            refine lv_iconst (v := 0) hx hb dL_courses_363 (by decide) ?_
            refine lv_iconst (v := 0) hx hb dL_courses_364 (by decide) ?_
            refine callLI (rest := []) F (k_enrol_00 l hst G q n nc t fl fd k wd wf wa cd cf hn i hi hnc c9 hc 0 0) gL_courses_L_call rfl hdL_call ⟨Nat.le_of_ble_eq_true rfl, Nat.le_of_ble_eq_true rfl⟩ ([] : va_W) (gC G o v) hH (by simp only [List.nil_append, List.append_nil]) rfl hl.1 (Nat.le_of_ble_eq_true rfl) dL_courses_365 ⟨(Nat.le_of_ble_eq_true rfl), (Nat.le_of_ble_eq_true rfl)⟩ rfl (fun u H locs hH => ?_)
            rw [List.nil_append] at hH
            have hH : HH G A s (sW G q n nc t fl fd k wd wf wa cd cf ++ gC G o v) H locs := hH
            refine lv_istore (lv' := [(10, .int (-61)), (9, .int c9), (8, .int (nI i)), (7, .int (nI n)), (5, .long (allS n t fd wf wa)), (0, .ref (q 0)), (1, .ref o), (2, .int x0), (3, .int z0), (4, .int od)]) hx hb dL_courses_368 hl (by decide) rfl (fun ls hl => ?_)
            refine lv_iload hx hb dL_courses_370 (lv_at hl 0 rfl) ?_
            refine lv_if_ge (tgt := 428) hx hb dL_courses_372 (by decide) (fun c_372 => absurd c_372 (by decide)) (fun c_372 => ?_)
            refine lv_aload_n hx hb dL_courses_375 rfl (lv_at hl 5 rfl) ?_
            refine callSL (rest := []) F (c_all l G q n nc t fl fd k wd wf wa cd cf hn) gL_courses_L_all rfl hdL_all ⟨Nat.le_of_ble_eq_true rfl, Nat.le_of_ble_eq_true rfl⟩ ([] : va_W) (gC G o v) hH (by simp only [List.nil_append, List.append_nil]) rfl hl.1 (Nat.le_of_ble_eq_true rfl) dL_courses_376 ⟨(Nat.le_of_ble_eq_true rfl), (Nat.le_of_ble_eq_true rfl)⟩ rfl (fun H locs hH => ?_)
            refine lv_lload hx hb dL_courses_379 (lv_at hl 4 rfl) ?_
            refine W.lcmp hx hb dL_courses_381 ?_
            refine lv_if_ne (tgt := 426) hx hb dL_courses_382 (by decide) (fun c_382 => absurd (lg_self _) c_382) (fun c_382 => ?_)
            refine lv_iload hx hb dL_courses_385 (lv_at hl 0 rfl) ?_
            refine lv_iload hx hb dL_courses_387 (lv_at hl 2 rfl) ?_
            refine lv_if_lt (tgt := 412) hx hb dL_courses_389 (by decide) (fun c_389 => absurd c_389 (nI_pos (by omega))) (fun c_389 => ?_)
            refine lv_iload hx hb dL_courses_392 (lv_at hl 2 rfl) ?_
            refine lv_iload hx hb dL_courses_394 (lv_at hl 3 rfl) ?_
            refine lv_icmp_ge (tgt := 412) hx hb dL_courses_396 (by decide) (fun c_396 => absurd c_396 (nI_ge hi (by omega))) (fun c_396 => ?_)
            refine lv_iload hx hb dL_courses_399 (lv_at hl 1 rfl) ?_
            refine lv_if_lt (tgt := 412) hx hb dL_courses_401 (by decide) (fun c_401 => ?_) (fun c_401 => ?_)
            · refine lv_bipush (v := (-61)) hx hb dL_courses_412 (by decide) ?_
              refine lv_goto (tgt := 419) hx hb dL_courses_414 (by decide) ?_
              refine lv_icmp_ne (tgt := 426) hx hb dL_courses_419 (by decide) (fun c_419 => absurd rfl c_419) (fun c_419 => ?_)
              refine lv_iconst (v := 1) hx hb dL_courses_422 (by decide) ?_
              refine lv_goto (tgt := 427) hx hb dL_courses_423 (by decide) ?_
              exact retP F hr rfl hH (PC_mk hv hI) (Nat.le_of_ble_eq_true rfl) (Nat.le_of_ble_eq_true rfl) dL_courses_427
            · refine lv_iload hx hb dL_courses_404 (lv_at hl 1 rfl) ?_
              refine lv_aload_n hx hb dL_courses_406 rfl (lv_at hl 6 rfl) ?_
              refine lv_iconst (v := 0) hx hb dL_courses_407 (by decide) ?_
              refine riald F hH _ (n := 1) (f := v) gC_at 0 rfl (by decide) (by decide) dL_courses_408 ?_
              refine lv_icmp_lt (tgt := 417) hx hb dL_courses_409 (by decide) (fun c_409 => absurd c_409 (by rw [hv]; exact i_nlt (hc.resolve_left c_401))) (fun c_409 => ?_)
              refine lv_bipush (v := (-61)) hx hb dL_courses_412 (by decide) ?_
              refine lv_goto (tgt := 419) hx hb dL_courses_414 (by decide) ?_
              refine lv_icmp_ne (tgt := 426) hx hb dL_courses_419 (by decide) (fun c_419 => absurd rfl c_419) (fun c_419 => ?_)
              refine lv_iconst (v := 1) hx hb dL_courses_422 (by decide) ?_
              refine lv_goto (tgt := 427) hx hb dL_courses_423 (by decide) ?_
              exact retP F hr rfl hH (PC_mk hv hI) (Nat.le_of_ble_eq_true rfl) (Nat.le_of_ble_eq_true rfl) dL_courses_427
          · subst hc
            obtain ⟨⟨x, y, hxy, hy9, hb0, hb1⟩, ⟨h, h1, h40, hb2⟩, ⟨z, hz8, hb3⟩⟩ := hCI j hj
            rcases enrol_or (cf := cf) (wa := wa) (t := t) (i := i) (j := j) (x := x) (y := y) with hz9 | ⟨hs, hw9, hno⟩
            · refine lv_istore (lv' := [(9, .int (nI j)), (8, .int (nI i)), (7, .int (nI n)), (5, .long (allS n t fd wf wa)), (0, .ref (q 0)), (1, .ref o), (2, .int x0), (3, .int z0), (4, .int od)]) hx hb dL_courses_355 hl (by decide) rfl (fun ls hl => ?_)
              refine lv_aload_n hx hb dL_courses_357 rfl (lv_at hl 4 rfl) ?_
              refine lv_iconst (v := 3) hx hb dL_courses_358 (by decide) ?_
              refine lv_iload hx hb dL_courses_359 (lv_at hl 1 rfl) ?_
              refine lv_iload hx hb dL_courses_361 (lv_at hl 0 rfl) ?_
              refine lv_iconst (v := 0) hx hb dL_courses_363 (by decide) ?_
              refine lv_iconst (v := 0) hx hb dL_courses_364 (by decide) ?_
              refine callLI (rest := []) F (k_enrol_2 l hst G q n nc t fl fd k wd wf wa cd cf hn i hi hnc j hj x y hb0 hb1 hxy hy9 hz9 0 0) gL_courses_L_call rfl hdL_call ⟨Nat.le_of_ble_eq_true rfl, Nat.le_of_ble_eq_true rfl⟩ ([] : va_W) (gC G o v) hH (by simp only [List.nil_append, List.append_nil]) rfl hl.1 (Nat.le_of_ble_eq_true rfl) dL_courses_365 ⟨(Nat.le_of_ble_eq_true rfl), (Nat.le_of_ble_eq_true rfl)⟩ rfl (fun u H locs hH => ?_)
              rw [List.nil_append] at hH
              have hH : HH G A s (sW G q n nc t fl fd k wd wf wa cd cf ++ gC G o v) H locs := hH
              refine lv_istore (lv' := [(10, .int (-63)), (9, .int (nI j)), (8, .int (nI i)), (7, .int (nI n)), (5, .long (allS n t fd wf wa)), (0, .ref (q 0)), (1, .ref o), (2, .int x0), (3, .int z0), (4, .int od)]) hx hb dL_courses_368 hl (by decide) rfl (fun ls hl => ?_)
              refine lv_iload hx hb dL_courses_370 (lv_at hl 0 rfl) ?_
              refine lv_if_ge (tgt := 428) hx hb dL_courses_372 (by decide) (fun c_372 => absurd c_372 (by decide)) (fun c_372 => ?_)
              refine lv_aload_n hx hb dL_courses_375 rfl (lv_at hl 5 rfl) ?_
              refine callSL (rest := []) F (c_all l G q n nc t fl fd k wd wf wa cd cf hn) gL_courses_L_all rfl hdL_all ⟨Nat.le_of_ble_eq_true rfl, Nat.le_of_ble_eq_true rfl⟩ ([] : va_W) (gC G o v) hH (by simp only [List.nil_append, List.append_nil]) rfl hl.1 (Nat.le_of_ble_eq_true rfl) dL_courses_376 ⟨(Nat.le_of_ble_eq_true rfl), (Nat.le_of_ble_eq_true rfl)⟩ rfl (fun H locs hH => ?_)
              refine lv_lload hx hb dL_courses_379 (lv_at hl 4 rfl) ?_
              refine W.lcmp hx hb dL_courses_381 ?_
              refine lv_if_ne (tgt := 426) hx hb dL_courses_382 (by decide) (fun c_382 => absurd (lg_self _) c_382) (fun c_382 => ?_)
              refine lv_iload hx hb dL_courses_385 (lv_at hl 0 rfl) ?_
              refine lv_iload hx hb dL_courses_387 (lv_at hl 2 rfl) ?_
              refine lv_if_lt (tgt := 412) hx hb dL_courses_389 (by decide) (fun c_389 => absurd c_389 (nI_pos (by omega))) (fun c_389 => ?_)
              refine lv_iload hx hb dL_courses_392 (lv_at hl 2 rfl) ?_
              refine lv_iload hx hb dL_courses_394 (lv_at hl 3 rfl) ?_
              refine lv_icmp_ge (tgt := 412) hx hb dL_courses_396 (by decide) (fun c_396 => absurd c_396 (nI_ge hi (by omega))) (fun c_396 => ?_)
              refine lv_iload hx hb dL_courses_399 (lv_at hl 1 rfl) ?_
              refine lv_if_lt (tgt := 412) hx hb dL_courses_401 (by decide) (fun c_401 => absurd c_401 (nI_pos (by omega))) (fun c_401 => ?_)
              refine lv_iload hx hb dL_courses_404 (lv_at hl 1 rfl) ?_
              refine lv_aload_n hx hb dL_courses_406 rfl (lv_at hl 6 rfl) ?_
              refine lv_iconst (v := 0) hx hb dL_courses_407 (by decide) ?_
              refine riald F hH _ (n := 1) (f := v) gC_at 0 rfl (by decide) (by decide) dL_courses_408 ?_
              refine lv_icmp_lt (tgt := 417) hx hb dL_courses_409 (by decide) (fun c_409 => ?_) (fun c_409 => absurd (by rw [hv]; exact nI_lt hj (by omega)) c_409)
              refine lv_bipush (v := (-63)) hx hb dL_courses_417 (by decide) ?_
              refine lv_icmp_ne (tgt := 426) hx hb dL_courses_419 (by decide) (fun c_419 => absurd rfl c_419) (fun c_419 => ?_)
              refine lv_iconst (v := 1) hx hb dL_courses_422 (by decide) ?_
              refine lv_goto (tgt := 427) hx hb dL_courses_423 (by decide) ?_
              exact retP F hr rfl hH (PC_mk hv hI) (Nat.le_of_ble_eq_true rfl) (Nat.le_of_ble_eq_true rfl) dL_courses_427
            · refine lv_istore (lv' := [(9, .int (nI j)), (8, .int (nI i)), (7, .int (nI n)), (5, .long (allS n t fd wf wa)), (0, .ref (q 0)), (1, .ref o), (2, .int x0), (3, .int z0), (4, .int od)]) hx hb dL_courses_355 hl (by decide) rfl (fun ls hl => ?_)
              refine lv_aload_n hx hb dL_courses_357 rfl (lv_at hl 4 rfl) ?_
              refine lv_iconst (v := 3) hx hb dL_courses_358 (by decide) ?_
              refine lv_iload hx hb dL_courses_359 (lv_at hl 1 rfl) ?_
              refine lv_iload hx hb dL_courses_361 (lv_at hl 0 rfl) ?_
              refine lv_iconst (v := 0) hx hb dL_courses_363 (by decide) ?_
              refine lv_iconst (v := 0) hx hb dL_courses_364 (by decide) ?_
              refine callLI (rest := []) F (k_enrol_1 l G q n nc t fl fd k wd wf wa cd cf hn i hi hnc j hj x y hb0 hb1 hxy hy9 hs hw9 hno 0 0) gL_courses_L_call rfl hdL_call ⟨Nat.le_of_ble_eq_true rfl, Nat.le_of_ble_eq_true rfl⟩ ([] : va_W) (gC G o v) hH (by simp only [List.nil_append, List.append_nil]) rfl hl.1 (Nat.le_of_ble_eq_true rfl) dL_courses_365 ⟨(Nat.le_of_ble_eq_true rfl), (Nat.le_of_ble_eq_true rfl)⟩ rfl (fun u H locs hH => ?_)
              rw [List.nil_append] at hH
              have hH : HH G A s (sW G q n nc t fl fd k wd wf (va_up wa i (va_up (wa i) 3 (fillR (wa i 3) x (y + 1) (cf j 2)))) cd (va_up cf j (va_up (cf j) 3 ((cf j 3) - 1))) ++ gC G o v) H locs := hH
              have hz1 := seats_nat hz8 hb3 hs
              have hs9 : cf j 3 - 1 = nI (z - 1) := by rw [hb3]; exact pk_sub (b := 1) hz1
              have hI2 := IN_cf (j := j) (g := va_up (cf j) 3 ((cf j 3) - 1)) (IN_row (r := 3) (g := fillR (wa i 3) x (y + 1) (cf j 2)) hI hi (by decide) (by decide) (by decide)) ⟨⟨x, y, hxy, hy9, hb0, hb1⟩, ⟨h, h1, h40, hb2⟩, ⟨z - 1, by omega, by rw [va_up_self]; exact hs9⟩⟩
              have hr9 : (va_up wa i (va_up (wa i) 3 (fillR (wa i 3) x (y + 1) (cf j 2)))) i 3 x = nI h := by rw [va_up_self, va_up_self, fillR_i (Nat.le_refl x) (by omega)]; exact hb2
              have q0 : (va_up cf j (va_up (cf j) 3 ((cf j 3) - 1))) j 0 = nI x := by rw [va_up_self]; exact hb0
              have q1 : (va_up cf j (va_up (cf j) 3 ((cf j 3) - 1))) j 1 = nI y := by rw [va_up_self]; exact hb1
              have q3 : (va_up cf j (va_up (cf j) 3 ((cf j 3) - 1))) j 3 = nI (z - 1) := by rw [va_up_self, va_up_self]; exact hs9
              obtain ⟨wa2, hwa2⟩ : ∃ x9, x9 = va_up wa i (va_up (wa i) 3 (fillR (wa i 3) x (y + 1) (cf j 2))) := ⟨_, rfl⟩
              obtain ⟨cf2, hcf2⟩ : ∃ x9, x9 = va_up cf j (va_up (cf j) 3 ((cf j 3) - 1)) := ⟨_, rfl⟩
              rw [← hwa2, ← hcf2] at hH hI2
              rw [← hwa2] at hr9
              rw [← hcf2] at q0 q1 q3
              clear hwa2 hcf2
              refine lv_istore (lv' := [(10, .int (cf j 3 - 1)), (9, .int (nI j)), (8, .int (nI i)), (7, .int (nI n)), (5, .long (allS n t fd wf wa)), (0, .ref (q 0)), (1, .ref o), (2, .int x0), (3, .int z0), (4, .int od)]) hx hb dL_courses_368 hl (by decide) rfl (fun ls hl => ?_)
              refine lv_iload hx hb dL_courses_370 (lv_at hl 0 rfl) ?_
              refine lv_if_ge (tgt := 428) hx hb dL_courses_372 (by decide) (fun c_372 => ?_) (fun c_372 => absurd (by rw [hs9]; exact nI_0le (by omega)) c_372)
              refine lv_iload hx hb dL_courses_428 (lv_at hl 0 rfl) ?_
              refine lv_bipush (v := 8) hx hb dL_courses_430 (by decide) ?_
              refine lv_icmp_ge (tgt := 455) hx hb dL_courses_432 (by decide) (fun c_432 => absurd c_432 (by rw [hs9]; exact nI_ge (a := z - 1) (b := 8) (by omega) (by decide))) (fun c_432 => ?_)
              refine lv_aload_n hx hb dL_courses_435 rfl (lv_at hl 5 rfl) ?_
              refine lv_iconst (v := 3) hx hb dL_courses_436 (by decide) ?_
              refine lv_iload hx hb dL_courses_437 (lv_at hl 2 rfl) ?_
              refine lv_iload hx hb dL_courses_439 (lv_at hl 1 rfl) ?_
              refine lv_iconst (v := 0) hx hb dL_courses_441 (by decide) ?_
              refine lv_iconst (v := 0) hx hb dL_courses_442 (by decide) ?_
              refine callLI (rest := []) F (k_enrol_2 l hst G q n nc t fl fd k wd wf wa2 cd cf2 hn i hi hnc j hj x y q0 q1 hxy hy9 (again h1 h40 (by omega) q3 (by rw [q1, ← hb1]; exact hw9) hxy hr9) 0 0) gL_courses_L_call rfl hdL_call ⟨Nat.le_of_ble_eq_true rfl, Nat.le_of_ble_eq_true rfl⟩ ([] : va_W) (gC G o v) hH (by simp only [List.nil_append, List.append_nil]) rfl hl.1 (Nat.le_of_ble_eq_true rfl) dL_courses_443 ⟨(Nat.le_of_ble_eq_true rfl), (Nat.le_of_ble_eq_true rfl)⟩ rfl (fun u H locs hH => ?_)
              rw [List.nil_append] at hH
              have hH : HH G A s (sW G q n nc t fl fd k wd wf wa2 cd cf2 ++ gC G o v) H locs := hH
              refine lv_bipush (v := (-63)) hx hb dL_courses_446 (by decide) ?_
              refine lv_icmp_ne (tgt := 455) hx hb dL_courses_448 (by decide) (fun c_448 => absurd rfl c_448) (fun c_448 => ?_)
              refine lv_iconst (v := 1) hx hb dL_courses_451 (by decide) ?_
              refine lv_goto (tgt := 456) hx hb dL_courses_452 (by decide) ?_
              exact retP F hr rfl hH (PC_mk hv hI2) (Nat.le_of_ble_eq_true rfl) (Nat.le_of_ble_eq_true rfl) dL_courses_456
      refine lv_if_eq (tgt := 338) hx hb dL_courses_321 (by decide) (fun c_321 => ?_) (fun c_321 => ?_)
      · refine lv_iload_n hx hb dL_courses_338 rfl (lv_at hl 6 rfl) ?_
        refine lv_aload_n hx hb dL_courses_339 rfl (lv_at hl 4 rfl) ?_
        refine lv_iconst (v := 0) hx hb dL_courses_340 (by decide) ?_
        refine riald F hH _ (n := 1) (f := v) gC_at 0 rfl (by decide) (by decide) dL_courses_341 ?_
        refine lv_if_ne (tgt := 349) hx hb dL_courses_342 (by decide) (fun c_342 => ?_) (fun c_342 => ?_)
        · refine lv_aload_n hx hb dL_courses_349 rfl (lv_at hl 4 rfl) ?_
          refine lv_iconst (v := 0) hx hb dL_courses_350 (by decide) ?_
          refine riald F hH _ (n := 1) (f := v) gC_at 0 rfl (by decide) (by decide) dL_courses_351 ?_
          refine callSI (rest := []) F (c_some l G (sW G q n nc t fl fd k wd wf wa cd cf) z0 (v 0) c_342) gL_courses_L_some rfl hdL_some ⟨Nat.le_of_ble_eq_true rfl, Nat.le_of_ble_eq_true rfl⟩ ([] : va_W) (gC G o v) hH (by simp only [List.nil_append, List.append_nil]) rfl hl.1 (Nat.le_of_ble_eq_true rfl) dL_courses_352 ⟨(Nat.le_of_ble_eq_true rfl), (Nat.le_of_ble_eq_true rfl)⟩ rfl (fun u H locs hH => ?_)
          rw [List.nil_append] at hH
          have hH : HH G A s (sW G q n nc t fl fd k wd wf wa cd cf ++ gC G o v) H locs := hH
          refine W.widen (k := 0 + 0 + 0 + 0) (n := 0 + 0 + 0 + 0) (Nat.le_of_ble_eq_true rfl) (Nat.le_of_ble_eq_true rfl) ?_
          exact j355 _ _ _ _ hH (lv_sub hl [0, 1, 2, 3, 4, 5, 6, 7] rfl)
        · refine lv_iconst (v := 1) hx hb dL_courses_345 (by decide) ?_
          refine lv_goto (tgt := 352) hx hb dL_courses_346 (by decide) ?_
          refine callSI (rest := []) F (c_some l G (sW G q n nc t fl fd k wd wf wa cd cf) z0 1 (by decide)) gL_courses_L_some rfl hdL_some ⟨Nat.le_of_ble_eq_true rfl, Nat.le_of_ble_eq_true rfl⟩ ([] : va_W) (gC G o v) hH (by simp only [List.nil_append, List.append_nil]) rfl hl.1 (Nat.le_of_ble_eq_true rfl) dL_courses_352 ⟨(Nat.le_of_ble_eq_true rfl), (Nat.le_of_ble_eq_true rfl)⟩ rfl (fun u H locs hH => ?_)
          rw [List.nil_append] at hH
          have hH : HH G A s (sW G q n nc t fl fd k wd wf wa cd cf ++ gC G o v) H locs := hH
          refine W.widen (k := 0 + 0 + 0 + 0) (n := 0 + 0 + 0 + 0) (Nat.le_of_ble_eq_true rfl) (Nat.le_of_ble_eq_true rfl) ?_
          exact j355 _ _ _ _ hH (lv_sub hl [0, 1, 2, 3, 4, 5, 6, 7] rfl)
      · refine lv_iload_n hx hb dL_courses_324 rfl (lv_at hl 6 rfl) ?_
        refine lv_aload_n hx hb dL_courses_325 rfl (lv_at hl 4 rfl) ?_
        refine lv_iconst (v := 0) hx hb dL_courses_326 (by decide) ?_
        refine riald F hH _ (n := 1) (f := v) gC_at 0 rfl (by decide) (by decide) dL_courses_327 ?_
        refine lv_iconst (v := 2) hx hb dL_courses_328 (by decide) ?_
        refine lv_iadd hx hb dL_courses_329 ?_
        refine callSI (rest := []) F (c_some l G (sW G q n nc t fl fd k wd wf wa cd cf) z0 (v 0 + 2) (by rw [hv]; exact nI_add2_ne (by omega) 2 (by decide) (by decide))) gL_courses_L_some rfl hdL_some ⟨Nat.le_of_ble_eq_true rfl, Nat.le_of_ble_eq_true rfl⟩ ([] : va_W) (gC G o v) hH (by simp only [List.nil_append, List.append_nil]) rfl hl.1 (Nat.le_of_ble_eq_true rfl) dL_courses_330 ⟨(Nat.le_of_ble_eq_true rfl), (Nat.le_of_ble_eq_true rfl)⟩ rfl (fun u H locs hH => ?_)
        rw [List.nil_append] at hH
        have hH : HH G A s (sW G q n nc t fl fd k wd wf wa cd cf ++ gC G o v) H locs := hH
        refine lv_iconst (v := 1) hx hb dL_courses_333 (by decide) ?_
        refine lv_isub hx hb dL_courses_334 ?_
        refine lv_goto (tgt := 355) hx hb dL_courses_335 (by decide) ?_
        refine W.widen (k := 0 + 0 + 0 + 0) (n := 0 + 0 + 0 + 0) (Nat.le_of_ble_eq_true rfl) (Nat.le_of_ble_eq_true rfl) ?_
        exact j355 _ _ _ _ hH (lv_sub hl [0, 1, 2, 3, 4, 5, 6, 7] rfl)
    refine lv_if_eq (tgt := 300) hx hb dL_courses_282 (by decide) (fun c_282 => ?_) (fun c_282 => ?_)
    · refine lv_iload_n hx hb dL_courses_300 rfl (lv_at hl 4 rfl) ?_
      refine lv_iconst (v := 3) hx hb dL_courses_301 (by decide) ?_
      refine lv_ishr hx hb dL_courses_302 ?_
      refine lv_iload hx hb dL_courses_303 (lv_at hl 0 rfl) ?_
      refine lv_if_ne (tgt := 312) hx hb dL_courses_305 (by decide) (fun c_305 => ?_) (fun c_305 => ?_)
      · refine lv_iload hx hb dL_courses_312 (lv_at hl 0 rfl) ?_
        refine callSI (rest := []) F (c_some l G (sW G q n nc t fl fd k wd wf wa cd cf) (x0 >>> (3 &&& 31)) (nI n) c_305) gL_courses_L_some rfl hdL_some ⟨Nat.le_of_ble_eq_true rfl, Nat.le_of_ble_eq_true rfl⟩ ([] : va_W) (gC G o v) hH (by simp only [List.nil_append, List.append_nil]) rfl hl.1 (Nat.le_of_ble_eq_true rfl) dL_courses_314 ⟨(Nat.le_of_ble_eq_true rfl), (Nat.le_of_ble_eq_true rfl)⟩ rfl (fun u H locs hH => ?_)
        rw [List.nil_append] at hH
        have hH : HH G A s (sW G q n nc t fl fd k wd wf wa cd cf ++ gC G o v) H locs := hH
        refine W.widen (k := 0 + 0 + 0 + 0) (n := 0 + 0 + 0 + 0) (Nat.le_of_ble_eq_true rfl) (Nat.le_of_ble_eq_true rfl) ?_
        exact j317 _ _ _ _ hH (lv_sub hl [0, 1, 2, 3, 4, 5, 6] rfl)
      · refine lv_iconst (v := 1) hx hb dL_courses_308 (by decide) ?_
        refine lv_goto (tgt := 314) hx hb dL_courses_309 (by decide) ?_
        refine callSI (rest := []) F (c_some l G (sW G q n nc t fl fd k wd wf wa cd cf) (x0 >>> (3 &&& 31)) 1 (by decide)) gL_courses_L_some rfl hdL_some ⟨Nat.le_of_ble_eq_true rfl, Nat.le_of_ble_eq_true rfl⟩ ([] : va_W) (gC G o v) hH (by simp only [List.nil_append, List.append_nil]) rfl hl.1 (Nat.le_of_ble_eq_true rfl) dL_courses_314 ⟨(Nat.le_of_ble_eq_true rfl), (Nat.le_of_ble_eq_true rfl)⟩ rfl (fun u H locs hH => ?_)
        rw [List.nil_append] at hH
        have hH : HH G A s (sW G q n nc t fl fd k wd wf wa cd cf ++ gC G o v) H locs := hH
        refine W.widen (k := 0 + 0 + 0 + 0) (n := 0 + 0 + 0 + 0) (Nat.le_of_ble_eq_true rfl) (Nat.le_of_ble_eq_true rfl) ?_
        exact j317 _ _ _ _ hH (lv_sub hl [0, 1, 2, 3, 4, 5, 6] rfl)
    · refine lv_iload_n hx hb dL_courses_285 rfl (lv_at hl 4 rfl) ?_
      refine lv_iconst (v := 3) hx hb dL_courses_286 (by decide) ?_
      refine lv_ishr hx hb dL_courses_287 ?_
      refine lv_iload hx hb dL_courses_288 (lv_at hl 0 rfl) ?_
      refine lv_iconst (v := 2) hx hb dL_courses_290 (by decide) ?_
      refine lv_iadd hx hb dL_courses_291 ?_
      refine callSI (rest := []) F (c_some l G (sW G q n nc t fl fd k wd wf wa cd cf) (x0 >>> (3 &&& 31)) (nI n + 2) (nI_add2_ne (by omega) 2 (by decide) (by decide))) gL_courses_L_some rfl hdL_some ⟨Nat.le_of_ble_eq_true rfl, Nat.le_of_ble_eq_true rfl⟩ ([] : va_W) (gC G o v) hH (by simp only [List.nil_append, List.append_nil]) rfl hl.1 (Nat.le_of_ble_eq_true rfl) dL_courses_292 ⟨(Nat.le_of_ble_eq_true rfl), (Nat.le_of_ble_eq_true rfl)⟩ rfl (fun u H locs hH => ?_)
      rw [List.nil_append] at hH
      have hH : HH G A s (sW G q n nc t fl fd k wd wf wa cd cf ++ gC G o v) H locs := hH
      refine lv_iconst (v := 1) hx hb dL_courses_295 (by decide) ?_
      refine lv_isub hx hb dL_courses_296 ?_
      refine lv_goto (tgt := 317) hx hb dL_courses_297 (by decide) ?_
      refine W.widen (k := 0 + 0 + 0 + 0) (n := 0 + 0 + 0 + 0) (Nat.le_of_ble_eq_true rfl) (Nat.le_of_ble_eq_true rfl) ?_
      exact j317 _ _ _ _ hH (lv_sub hl [0, 1, 2, 3, 4, 5, 6] rfl)
  · refine lv_iload hx hb dL_courses_20 (lv_at hl 6 rfl) ?_
    have j41 : ∀ (se : Int32) (H : Heap) (locs : List Loc) (ls : Array Slot), HH G A s (sW G q n nc t fl fd k wd wf wa cd cf ++ gC G o v) H locs → lv_has ls 15 [(7, .int (nI n)), (5, .long (allS n t fd wf wa)), (0, .ref (q 0)), (1, .ref o), (2, .int x0), (3, .int z0), (4, .int od)] → W p l e ({ frames := 10, cells := 4, slots := 24, locals := 240 } : Room) s m [.ref (q 0), .ref o, .int x0, .int z0, .int od].toArray below meth c H locs (0 + 0 + 0 + 0) (0 + 0 + 0 + 0) (EnP G A below s [.ref (q 0), .ref o, .int x0, .int z0, .int od].toArray ({ frames := 10, cells := 4, slots := 24, locals := 240 } : Room) (PC G q o fl)) (F0 m 41 ls [.int se]) := by
      intro se H locs ls hH hl
      refine lv_istore (lv' := [(8, .int se), (7, .int (nI n)), (5, .long (allS n t fd wf wa)), (0, .ref (q 0)), (1, .ref o), (2, .int x0), (3, .int z0), (4, .int od)]) hx hb dL_courses_41 hl (by decide) rfl (fun ls hl => ?_)
      refine lv_iload hx hb dL_courses_43 (lv_at hl 7 rfl) ?_
      have j70 : ∀ (f : Int32) (H : Heap) (locs : List Loc) (ls : Array Slot), HH G A s (sW G q n nc t fl fd k wd wf wa cd cf ++ gC G o v) H locs → lv_has ls 15 [(8, .int se), (7, .int (nI n)), (5, .long (allS n t fd wf wa)), (0, .ref (q 0)), (1, .ref o), (2, .int x0), (3, .int z0), (4, .int od)] → W p l e ({ frames := 10, cells := 4, slots := 24, locals := 240 } : Room) s m [.ref (q 0), .ref o, .int x0, .int z0, .int od].toArray below meth c H locs (0 + 0 + 0 + 0) (0 + 0 + 0 + 0) (EnP G A below s [.ref (q 0), .ref o, .int x0, .int z0, .int od].toArray ({ frames := 10, cells := 4, slots := 24, locals := 240 } : Room) (PC G q o fl)) (F0 m 70 ls [.int f]) := by
        intro f H locs ls hH hl
        refine lv_istore (lv' := [(9, .int f), (8, .int se), (7, .int (nI n)), (5, .long (allS n t fd wf wa)), (0, .ref (q 0)), (1, .ref o), (2, .int x0), (3, .int z0), (4, .int od)]) hx hb dL_courses_70 hl (by decide) rfl (fun ls hl => ?_)
        refine lv_iload hx hb dL_courses_72 (lv_at hl 0 rfl) ?_
        refine lv_iload hx hb dL_courses_74 (lv_at hl 8 rfl) ?_
        have j103 : ∀ (y : Int32) (H : Heap) (locs : List Loc) (ls : Array Slot), HH G A s (sW G q n nc t fl fd k wd wf wa cd cf ++ gC G o v) H locs → lv_has ls 15 [(9, .int f), (8, .int se), (7, .int (nI n)), (5, .long (allS n t fd wf wa)), (0, .ref (q 0)), (1, .ref o), (2, .int x0), (3, .int z0), (4, .int od)] → W p l e ({ frames := 10, cells := 4, slots := 24, locals := 240 } : Room) s m [.ref (q 0), .ref o, .int x0, .int z0, .int od].toArray below meth c H locs (0 + 0 + 0 + 0) (0 + 0 + 0 + 0) (EnP G A below s [.ref (q 0), .ref o, .int x0, .int z0, .int od].toArray ({ frames := 10, cells := 4, slots := 24, locals := 240 } : Room) (PC G q o fl)) (F0 m 103 ls [.int y]) := by
          intro y H locs ls hH hl
          refine lv_istore (lv' := [(10, .int y), (9, .int f), (8, .int se), (7, .int (nI n)), (5, .long (allS n t fd wf wa)), (0, .ref (q 0)), (1, .ref o), (2, .int x0), (3, .int z0), (4, .int od)]) hx hb dL_courses_103 hl (by decide) rfl (fun ls hl => ?_)
          refine lv_iload hx hb dL_courses_105 (lv_at hl 9 rfl) ?_
          have j135 : ∀ (hh : Int32) (H : Heap) (locs : List Loc) (ls : Array Slot), HH G A s (sW G q n nc t fl fd k wd wf wa cd cf ++ gC G o v) H locs → lv_has ls 15 [(10, .int y), (9, .int f), (8, .int se), (7, .int (nI n)), (5, .long (allS n t fd wf wa)), (0, .ref (q 0)), (1, .ref o), (2, .int x0), (3, .int z0), (4, .int od)] → W p l e ({ frames := 10, cells := 4, slots := 24, locals := 240 } : Room) s m [.ref (q 0), .ref o, .int x0, .int z0, .int od].toArray below meth c H locs (0 + 0 + 0 + 0) (0 + 0 + 0 + 0) (EnP G A below s [.ref (q 0), .ref o, .int x0, .int z0, .int od].toArray ({ frames := 10, cells := 4, slots := 24, locals := 240 } : Room) (PC G q o fl)) (F0 m 135 ls [.int hh]) := by
            intro hh H locs ls hH hl
            refine lv_istore (lv' := [(11, .int hh), (10, .int y), (9, .int f), (8, .int se), (7, .int (nI n)), (5, .long (allS n t fd wf wa)), (0, .ref (q 0)), (1, .ref o), (2, .int x0), (3, .int z0), (4, .int od)]) hx hb dL_courses_135 hl (by decide) rfl (fun ls hl => ?_)
            refine lv_iload hx hb dL_courses_137 (lv_at hl 3 rfl) ?_
            refine lv_iconst (v := 1) hx hb dL_courses_139 (by decide) ?_
            have j196 : ∀ (bd : Int32) (hbd : (bd = 1 ∧ ((se < 1 ∨ 8 < se) ∨ ((1 ≤ se ∧ se ≤ 8) ∧ (f < 0 ∨ 200 < f)) ∨ ((1 ≤ se ∧ se ≤ 8 ∧ 0 ≤ f ∧ f ≤ 200) ∧ (y < f ∨ 200 < y)) ∨ ((1 ≤ se ∧ se ≤ 8 ∧ 0 ≤ f ∧ f ≤ 200 ∧ f ≤ y ∧ y ≤ 200) ∧ (hh < 1 ∨ 40 < hh)))) ∨ (bd = 0 ∧ 1 ≤ se ∧ se ≤ 8 ∧ ¬ hh < 1 ∧ ∃ xa xb xh : Nat, xa ≤ xb ∧ xb ≤ 200 ∧ xh ≤ 40 ∧ f = nI xa ∧ y = nI xb ∧ hh = nI xh)) (H : Heap) (locs : List Loc) (ls : Array Slot), HH G A s (sW G q n nc t fl fd k wd wf wa cd cf ++ gC G o v) H locs → lv_has ls 15 [(11, .int hh), (10, .int y), (9, .int f), (8, .int se), (7, .int (nI n)), (5, .long (allS n t fd wf wa)), (0, .ref (q 0)), (1, .ref o), (2, .int x0), (3, .int z0), (4, .int od)] → W p l e ({ frames := 10, cells := 4, slots := 24, locals := 240 } : Room) s m [.ref (q 0), .ref o, .int x0, .int z0, .int od].toArray below meth c H locs (0 + 0 + 0 + 0) (0 + 0 + 0 + 0) (EnP G A below s [.ref (q 0), .ref o, .int x0, .int z0, .int od].toArray ({ frames := 10, cells := 4, slots := 24, locals := 240 } : Room) (PC G q o fl)) (F0 m 196 ls [.int bd]) := by
              intro bd hbd H locs ls hH hl
              rcases hbd with ⟨hbd, hB⟩ | ⟨hbd, s1, s2, hlo, xa, xb, xh, hab, hxb, hxh, hf, hy, hhh⟩
              · subst bd
                refine lv_istore (lv' := [(12, .int 1), (11, .int hh), (10, .int y), (9, .int f), (8, .int se), (7, .int (nI n)), (5, .long (allS n t fd wf wa)), (0, .ref (q 0)), (1, .ref o), (2, .int x0), (3, .int z0), (4, .int od)]) hx hb dL_courses_196 hl (by decide) rfl (fun ls hl => ?_)
                refine lv_aload_n hx hb dL_courses_198 rfl (lv_at hl 7 rfl) ?_
                refine lv_iconst (v := 2) hx hb dL_courses_199 (by decide) ?_
                refine lv_iload hx hb dL_courses_200 (lv_at hl 4 rfl) ?_
                refine lv_iload hx hb dL_courses_202 (lv_at hl 3 rfl) ?_
                refine lv_iload hx hb dL_courses_204 (lv_at hl 2 rfl) ?_
                refine lv_iload hx hb dL_courses_206 (lv_at hl 1 rfl) ?_
                refine callLI (rest := []) F (k_addCourse_2 l hst G q n nc t fl fd k wd wf wa cd cf se f y hh hB) gL_courses_L_call rfl hdL_call ⟨Nat.le_of_ble_eq_true rfl, Nat.le_of_ble_eq_true rfl⟩ ([] : va_W) (gC G o v) hH (by simp only [List.nil_append, List.append_nil]) rfl hl.1 (Nat.le_of_ble_eq_true rfl) dL_courses_208 ⟨(Nat.le_of_ble_eq_true rfl), (Nat.le_of_ble_eq_true rfl)⟩ rfl (fun u H locs hH => ?_)
                rw [List.nil_append] at hH
                have hH : HH G A s (sW G q n nc t fl fd k wd wf wa cd cf ++ gC G o v) H locs := hH
                refine lv_istore (lv' := [(13, .int (-62)), (12, .int 1), (11, .int hh), (10, .int y), (9, .int f), (8, .int se), (7, .int (nI n)), (5, .long (allS n t fd wf wa)), (0, .ref (q 0)), (1, .ref o), (2, .int x0), (3, .int z0), (4, .int od)]) hx hb dL_courses_211 hl (by decide) rfl (fun ls hl => ?_)
                refine lv_aload_n hx hb dL_courses_213 rfl (lv_at hl 8 rfl) ?_
                refine callSL (rest := []) F (c_all l G q n nc t fl fd k wd wf wa cd cf hn) gL_courses_L_all rfl hdL_all ⟨Nat.le_of_ble_eq_true rfl, Nat.le_of_ble_eq_true rfl⟩ ([] : va_W) (gC G o v) hH (by simp only [List.nil_append, List.append_nil]) rfl hl.1 (Nat.le_of_ble_eq_true rfl) dL_courses_214 ⟨(Nat.le_of_ble_eq_true rfl), (Nat.le_of_ble_eq_true rfl)⟩ rfl (fun H locs hH => ?_)
                refine lv_lload hx hb dL_courses_217 (lv_at hl 7 rfl) ?_
                refine W.lcmp hx hb dL_courses_219 ?_
                refine lv_if_ne (tgt := 258) hx hb dL_courses_220 (by decide) (fun c_220 => absurd (lg_self _) c_220) (fun c_220 => ?_)
                refine lv_iload hx hb dL_courses_223 (lv_at hl 0 rfl) ?_
                refine lv_iload hx hb dL_courses_225 (lv_at hl 1 rfl) ?_
                refine lv_if_eq (tgt := 235) hx hb dL_courses_227 (by decide) (fun c_227 => absurd c_227 (by decide)) (fun c_227 => ?_)
                refine lv_bipush (v := (-62)) hx hb dL_courses_230 (by decide) ?_
                refine lv_goto (tgt := 251) hx hb dL_courses_232 (by decide) ?_
                refine lv_icmp_ne (tgt := 258) hx hb dL_courses_251 (by decide) (fun c_251 => absurd rfl c_251) (fun c_251 => ?_)
                refine lv_iconst (v := 1) hx hb dL_courses_254 (by decide) ?_
                refine lv_goto (tgt := 259) hx hb dL_courses_255 (by decide) ?_
                refine lv_istore (lv' := [(14, .int 1), (13, .int (-62)), (12, .int 1), (11, .int hh), (10, .int y), (9, .int f), (8, .int se), (7, .int (nI n)), (5, .long (allS n t fd wf wa)), (0, .ref (q 0)), (1, .ref o), (2, .int x0), (3, .int z0), (4, .int od)]) hx hb dL_courses_259 hl (by decide) rfl (fun ls hl => ?_)
                refine lv_aload_n hx hb dL_courses_261 rfl (lv_at hl 10 rfl) ?_
                refine lv_iconst (v := 0) hx hb dL_courses_262 (by decide) ?_
                refine lv_dup2_11 hx hb dL_courses_263 rfl rfl ?_
                refine riald F hH _ (n := 1) (f := v) gC_at 0 rfl (by decide) (by decide) dL_courses_264 ?_
                refine lv_iload hx hb dL_courses_265 (lv_at hl 1 rfl) ?_
                refine lv_if_lt (tgt := 274) hx hb dL_courses_267 (by decide) (fun c_267 => ?_) (fun c_267 => absurd (by decide) c_267)
                refine lv_iconst (v := 0) hx hb dL_courses_274 (by decide) ?_
                refine lv_iadd hx hb dL_courses_275 ?_
                refine riast F hH _ (n := 1) (f := v) gC_at 0 rfl (by decide) (by decide) dL_courses_276 (fun H locs hH => ?_)
                rw [gC_set] at hH
                refine lv_iload hx hb dL_courses_277 (lv_at hl 0 rfl) ?_
                exact retP F hr rfl hH (PC_mk (by rw [pk_us, hv, Int32.add_zero]) hI) (Nat.le_of_ble_eq_true rfl) (Nat.le_of_ble_eq_true rfl) dL_courses_279
              · subst bd f y hh
                have hx1 : 1 ≤ xh := hrs_pos hxh hlo
                have hz9 : ∃ z : Nat, z ≤ 8 ∧ se = nI z := nI_of2 (M := 8) (n := 8) rfl (fun h9 => absurd s1 (i_nle (by rw [Int32.lt_iff_toInt_lt] at h9 ⊢; have h8 : (0 : Int32).toInt = 0 := rfl; have h7 : (1 : Int32).toInt = 1 := rfl; omega))) s2
                rcases Nat.lt_or_ge nc 10 with hnc9 | hn10
                · refine lv_istore (lv' := [(12, .int 0), (11, .int (nI xh)), (10, .int (nI xb)), (9, .int (nI xa)), (8, .int se), (7, .int (nI n)), (5, .long (allS n t fd wf wa)), (0, .ref (q 0)), (1, .ref o), (2, .int x0), (3, .int z0), (4, .int od)]) hx hb dL_courses_196 hl (by decide) rfl (fun ls hl => ?_)
                  refine lv_aload_n hx hb dL_courses_198 rfl (lv_at hl 7 rfl) ?_
                  refine lv_iconst (v := 2) hx hb dL_courses_199 (by decide) ?_
                  refine lv_iload hx hb dL_courses_200 (lv_at hl 4 rfl) ?_
                  refine lv_iload hx hb dL_courses_202 (lv_at hl 3 rfl) ?_
                  refine lv_iload hx hb dL_courses_204 (lv_at hl 2 rfl) ?_
                  refine lv_iload hx hb dL_courses_206 (lv_at hl 1 rfl) ?_
                  refine callLI (rest := []) F (k_addCourse_1 l G q n nc t fl fd k wd wf wa cd cf hnc9 se s1 s2 xa xb hab hxb (nI xh) (nI_1le hx1 (by omega)) (nI_le (b := 40) hxh (by decide))) gL_courses_L_call rfl hdL_call ⟨Nat.le_of_ble_eq_true rfl, Nat.le_of_ble_eq_true rfl⟩ ([] : va_W) (gC G o v) hH (by simp only [List.nil_append, List.append_nil]) rfl hl.1 (Nat.le_of_ble_eq_true rfl) dL_courses_208 ⟨(Nat.le_of_ble_eq_true rfl), (Nat.le_of_ble_eq_true rfl)⟩ rfl (fun u H locs hH => ?_)
                  rw [List.nil_append] at hH
                  have hH : HH G A s (sW G q n (nc + 1) t fl fd k wd wf wa (va_up cd nc (u 0)) (va_up cf nc (va_up (va_up (va_up (va_up (fun _ => 0) 0 (nI xa)) 1 (nI xb)) 2 (nI xh)) 3 se)) ++ gC G o v) H locs := hH
                  have hI2 := IN_course (g := va_up (va_up (va_up (va_up (fun _ => 0) 0 (nI xa)) 1 (nI xb)) 2 (nI xh)) 3 se) hI hnc9 ⟨⟨xa, xb, hab, hxb, rfl, rfl⟩, ⟨xh, hx1, hxh, rfl⟩, hz9⟩
                  obtain ⟨cd2, hcd2⟩ : ∃ x9, x9 = va_up cd nc (u 0) := ⟨_, rfl⟩
                  obtain ⟨cf2, hcf2⟩ : ∃ x9, x9 = va_up cf nc (va_up (va_up (va_up (va_up (fun _ => 0) 0 (nI xa)) 1 (nI xb)) 2 (nI xh)) 3 se) := ⟨_, rfl⟩
                  rw [← hcd2, ← hcf2] at hH
                  rw [← hcf2] at hI2
                  clear hcd2 hcf2
                  refine lv_istore (lv' := [(13, .int (nI nc)), (12, .int 0), (11, .int (nI xh)), (10, .int (nI xb)), (9, .int (nI xa)), (8, .int se), (7, .int (nI n)), (5, .long (allS n t fd wf wa)), (0, .ref (q 0)), (1, .ref o), (2, .int x0), (3, .int z0), (4, .int od)]) hx hb dL_courses_211 hl (by decide) rfl (fun ls hl => ?_)
                  refine lv_aload_n hx hb dL_courses_213 rfl (lv_at hl 8 rfl) ?_
                  refine callSL (rest := []) F (c_all l G q n (nc + 1) t fl fd k wd wf wa cd2 cf2 hn) gL_courses_L_all rfl hdL_all ⟨Nat.le_of_ble_eq_true rfl, Nat.le_of_ble_eq_true rfl⟩ ([] : va_W) (gC G o v) hH (by simp only [List.nil_append, List.append_nil]) rfl hl.1 (Nat.le_of_ble_eq_true rfl) dL_courses_214 ⟨(Nat.le_of_ble_eq_true rfl), (Nat.le_of_ble_eq_true rfl)⟩ rfl (fun H locs hH => ?_)
                  refine lv_lload hx hb dL_courses_217 (lv_at hl 7 rfl) ?_
                  refine W.lcmp hx hb dL_courses_219 ?_
                  refine lv_if_ne (tgt := 258) hx hb dL_courses_220 (by decide) (fun c_220 => absurd (lg_self _) c_220) (fun c_220 => ?_)
                  refine lv_iload hx hb dL_courses_223 (lv_at hl 0 rfl) ?_
                  refine lv_iload hx hb dL_courses_225 (lv_at hl 1 rfl) ?_
                  refine lv_if_eq (tgt := 235) hx hb dL_courses_227 (by decide) (fun c_227 => ?_) (fun c_227 => absurd rfl c_227)
                  refine lv_aload_n hx hb dL_courses_235 rfl (lv_at hl 9 rfl) ?_
                  refine lv_iconst (v := 0) hx hb dL_courses_236 (by decide) ?_
                  refine riald F hH _ (n := 1) (f := v) gC_at 0 rfl (by decide) (by decide) dL_courses_237 ?_
                  refine lv_bipush (v := 10) hx hb dL_courses_238 (by decide) ?_
                  refine lv_icmp_ne (tgt := 248) hx hb dL_courses_240 (by decide) (fun c_240 => ?_) (fun c_240 => absurd c_240 (by rw [hv]; exact ne10 hnc9))
                  refine lv_aload_n hx hb dL_courses_248 rfl (lv_at hl 9 rfl) ?_
                  refine lv_iconst (v := 0) hx hb dL_courses_249 (by decide) ?_
                  refine riald F hH _ (n := 1) (f := v) gC_at 0 rfl (by decide) (by decide) dL_courses_250 ?_
                  refine lv_icmp_ne (tgt := 258) hx hb dL_courses_251 (by decide) (fun c_251 => absurd hv.symm c_251) (fun c_251 => ?_)
                  refine lv_iconst (v := 1) hx hb dL_courses_254 (by decide) ?_
                  refine lv_goto (tgt := 259) hx hb dL_courses_255 (by decide) ?_
                  refine lv_istore (lv' := [(14, .int 1), (13, .int (nI nc)), (12, .int 0), (11, .int (nI xh)), (10, .int (nI xb)), (9, .int (nI xa)), (8, .int se), (7, .int (nI n)), (5, .long (allS n t fd wf wa)), (0, .ref (q 0)), (1, .ref o), (2, .int x0), (3, .int z0), (4, .int od)]) hx hb dL_courses_259 hl (by decide) rfl (fun ls hl => ?_)
                  refine lv_aload_n hx hb dL_courses_261 rfl (lv_at hl 10 rfl) ?_
                  refine lv_iconst (v := 0) hx hb dL_courses_262 (by decide) ?_
                  refine lv_dup2_11 hx hb dL_courses_263 rfl rfl ?_
                  refine riald F hH _ (n := 1) (f := v) gC_at 0 rfl (by decide) (by decide) dL_courses_264 ?_
                  refine lv_iload hx hb dL_courses_265 (lv_at hl 1 rfl) ?_
                  refine lv_if_lt (tgt := 274) hx hb dL_courses_267 (by decide) (fun c_267 => absurd c_267 (nI_pos (by omega))) (fun c_267 => ?_)
                  refine lv_iconst (v := 1) hx hb dL_courses_270 (by decide) ?_
                  refine lv_goto (tgt := 275) hx hb dL_courses_271 (by decide) ?_
                  refine lv_iadd hx hb dL_courses_275 ?_
                  refine riast F hH _ (n := 1) (f := v) gC_at 0 rfl (by decide) (by decide) dL_courses_276 (fun H locs hH => ?_)
                  rw [gC_set] at hH
                  refine lv_iload hx hb dL_courses_277 (lv_at hl 0 rfl) ?_
                  exact retP F hr rfl hH (PC_mk (by rw [pk_us, hv, nI_1]) hI2) (Nat.le_of_ble_eq_true rfl) (Nat.le_of_ble_eq_true rfl) dL_courses_279
                · have hn10 : nc = 10 := by omega
                  refine lv_istore (lv' := [(12, .int 0), (11, .int (nI xh)), (10, .int (nI xb)), (9, .int (nI xa)), (8, .int se), (7, .int (nI n)), (5, .long (allS n t fd wf wa)), (0, .ref (q 0)), (1, .ref o), (2, .int x0), (3, .int z0), (4, .int od)]) hx hb dL_courses_196 hl (by decide) rfl (fun ls hl => ?_)
                  refine lv_aload_n hx hb dL_courses_198 rfl (lv_at hl 7 rfl) ?_
                  refine lv_iconst (v := 2) hx hb dL_courses_199 (by decide) ?_
                  refine lv_iload hx hb dL_courses_200 (lv_at hl 4 rfl) ?_
                  refine lv_iload hx hb dL_courses_202 (lv_at hl 3 rfl) ?_
                  refine lv_iload hx hb dL_courses_204 (lv_at hl 2 rfl) ?_
                  refine lv_iload hx hb dL_courses_206 (lv_at hl 1 rfl) ?_
                  refine callLI (rest := []) F (k_addCourse_3 l hst G q n nc t fl fd k wd wf wa cd cf hn10 se (nI xa) (nI xb) (nI xh) ⟨s1, s2, nI_0le (by omega), nI_le (b := 200) (by omega) (by decide), nI_le hab (by omega), nI_le (b := 200) hxb (by decide), nI_1le hx1 (by omega), nI_le (b := 40) hxh (by decide)⟩) gL_courses_L_call rfl hdL_call ⟨Nat.le_of_ble_eq_true rfl, Nat.le_of_ble_eq_true rfl⟩ ([] : va_W) (gC G o v) hH (by simp only [List.nil_append, List.append_nil]) rfl hl.1 (Nat.le_of_ble_eq_true rfl) dL_courses_208 ⟨(Nat.le_of_ble_eq_true rfl), (Nat.le_of_ble_eq_true rfl)⟩ rfl (fun u H locs hH => ?_)
                  rw [List.nil_append] at hH
                  have hH : HH G A s (sW G q n nc t fl fd k wd wf wa cd cf ++ gC G o v) H locs := hH
                  refine lv_istore (lv' := [(13, .int (-63)), (12, .int 0), (11, .int (nI xh)), (10, .int (nI xb)), (9, .int (nI xa)), (8, .int se), (7, .int (nI n)), (5, .long (allS n t fd wf wa)), (0, .ref (q 0)), (1, .ref o), (2, .int x0), (3, .int z0), (4, .int od)]) hx hb dL_courses_211 hl (by decide) rfl (fun ls hl => ?_)
                  refine lv_aload_n hx hb dL_courses_213 rfl (lv_at hl 8 rfl) ?_
                  refine callSL (rest := []) F (c_all l G q n nc t fl fd k wd wf wa cd cf hn) gL_courses_L_all rfl hdL_all ⟨Nat.le_of_ble_eq_true rfl, Nat.le_of_ble_eq_true rfl⟩ ([] : va_W) (gC G o v) hH (by simp only [List.nil_append, List.append_nil]) rfl hl.1 (Nat.le_of_ble_eq_true rfl) dL_courses_214 ⟨(Nat.le_of_ble_eq_true rfl), (Nat.le_of_ble_eq_true rfl)⟩ rfl (fun H locs hH => ?_)
                  refine lv_lload hx hb dL_courses_217 (lv_at hl 7 rfl) ?_
                  refine W.lcmp hx hb dL_courses_219 ?_
                  refine lv_if_ne (tgt := 258) hx hb dL_courses_220 (by decide) (fun c_220 => absurd (lg_self _) c_220) (fun c_220 => ?_)
                  refine lv_iload hx hb dL_courses_223 (lv_at hl 0 rfl) ?_
                  refine lv_iload hx hb dL_courses_225 (lv_at hl 1 rfl) ?_
                  refine lv_if_eq (tgt := 235) hx hb dL_courses_227 (by decide) (fun c_227 => ?_) (fun c_227 => absurd rfl c_227)
                  refine lv_aload_n hx hb dL_courses_235 rfl (lv_at hl 9 rfl) ?_
                  refine lv_iconst (v := 0) hx hb dL_courses_236 (by decide) ?_
                  refine riald F hH _ (n := 1) (f := v) gC_at 0 rfl (by decide) (by decide) dL_courses_237 ?_
                  refine lv_bipush (v := 10) hx hb dL_courses_238 (by decide) ?_
                  refine lv_icmp_ne (tgt := 248) hx hb dL_courses_240 (by decide) (fun c_240 => absurd (by rw [hv, hn10]; rfl) c_240) (fun c_240 => ?_)
                  refine lv_bipush (v := (-63)) hx hb dL_courses_243 (by decide) ?_
                  refine lv_goto (tgt := 251) hx hb dL_courses_245 (by decide) ?_
                  refine lv_icmp_ne (tgt := 258) hx hb dL_courses_251 (by decide) (fun c_251 => absurd rfl c_251) (fun c_251 => ?_)
                  refine lv_iconst (v := 1) hx hb dL_courses_254 (by decide) ?_
                  refine lv_goto (tgt := 259) hx hb dL_courses_255 (by decide) ?_
                  refine lv_istore (lv' := [(14, .int 1), (13, .int (-63)), (12, .int 0), (11, .int (nI xh)), (10, .int (nI xb)), (9, .int (nI xa)), (8, .int se), (7, .int (nI n)), (5, .long (allS n t fd wf wa)), (0, .ref (q 0)), (1, .ref o), (2, .int x0), (3, .int z0), (4, .int od)]) hx hb dL_courses_259 hl (by decide) rfl (fun ls hl => ?_)
                  refine lv_aload_n hx hb dL_courses_261 rfl (lv_at hl 10 rfl) ?_
                  refine lv_iconst (v := 0) hx hb dL_courses_262 (by decide) ?_
                  refine lv_dup2_11 hx hb dL_courses_263 rfl rfl ?_
                  refine riald F hH _ (n := 1) (f := v) gC_at 0 rfl (by decide) (by decide) dL_courses_264 ?_
                  refine lv_iload hx hb dL_courses_265 (lv_at hl 1 rfl) ?_
                  refine lv_if_lt (tgt := 274) hx hb dL_courses_267 (by decide) (fun c_267 => ?_) (fun c_267 => absurd (by decide) c_267)
                  refine lv_iconst (v := 0) hx hb dL_courses_274 (by decide) ?_
                  refine lv_iadd hx hb dL_courses_275 ?_
                  refine riast F hH _ (n := 1) (f := v) gC_at 0 rfl (by decide) (by decide) dL_courses_276 (fun H locs hH => ?_)
                  rw [gC_set] at hH
                  refine lv_iload hx hb dL_courses_277 (lv_at hl 0 rfl) ?_
                  exact retP F hr rfl hH (PC_mk (by rw [pk_us, hv, Int32.add_zero]) hI) (Nat.le_of_ble_eq_true rfl) (Nat.le_of_ble_eq_true rfl) dL_courses_279
            refine lv_icmp_lt (tgt := 191) hx hb dL_courses_140 (by decide) (fun c_140 => ?_) (fun c_140 => ?_)
            · refine lv_iconst (v := 1) hx hb dL_courses_191 (by decide) ?_
              refine lv_goto (tgt := 196) hx hb dL_courses_192 (by decide) ?_
              exact j196 1 (Or.inl ⟨rfl, Or.inl (Or.inl c_140)⟩) _ _ _ hH (lv_sub hl [0, 1, 2, 3, 4, 5, 6, 7, 8, 9, 10] rfl)
            · refine lv_iload hx hb dL_courses_143 (lv_at hl 3 rfl) ?_
              refine lv_bipush (v := 8) hx hb dL_courses_145 (by decide) ?_
              refine lv_icmp_gt (tgt := 191) hx hb dL_courses_147 (by decide) (fun c_147 => ?_) (fun c_147 => ?_)
              · refine lv_iconst (v := 1) hx hb dL_courses_191 (by decide) ?_
                refine lv_goto (tgt := 196) hx hb dL_courses_192 (by decide) ?_
                exact j196 1 (Or.inl ⟨rfl, Or.inl (Or.inr c_147)⟩) _ _ _ hH (lv_sub hl [0, 1, 2, 3, 4, 5, 6, 7, 8, 9, 10] rfl)
              · refine lv_iload hx hb dL_courses_150 (lv_at hl 2 rfl) ?_
                refine lv_if_lt (tgt := 191) hx hb dL_courses_152 (by decide) (fun c_152 => ?_) (fun c_152 => ?_)
                · refine lv_iconst (v := 1) hx hb dL_courses_191 (by decide) ?_
                  refine lv_goto (tgt := 196) hx hb dL_courses_192 (by decide) ?_
                  exact j196 1 (Or.inl ⟨rfl, Or.inr (Or.inl ⟨⟨i_le c_140, i_le c_147⟩, Or.inl c_152⟩)⟩) _ _ _ hH (lv_sub hl [0, 1, 2, 3, 4, 5, 6, 7, 8, 9, 10] rfl)
                · refine lv_iload hx hb dL_courses_155 (lv_at hl 2 rfl) ?_
                  refine lv_sipush (v := 200) hx hb dL_courses_157 (by decide) ?_
                  refine lv_icmp_gt (tgt := 191) hx hb dL_courses_160 (by decide) (fun c_160 => ?_) (fun c_160 => ?_)
                  · refine lv_iconst (v := 1) hx hb dL_courses_191 (by decide) ?_
                    refine lv_goto (tgt := 196) hx hb dL_courses_192 (by decide) ?_
                    exact j196 1 (Or.inl ⟨rfl, Or.inr (Or.inl ⟨⟨i_le c_140, i_le c_147⟩, Or.inr c_160⟩)⟩) _ _ _ hH (lv_sub hl [0, 1, 2, 3, 4, 5, 6, 7, 8, 9, 10] rfl)
                  · refine lv_iload hx hb dL_courses_163 (lv_at hl 1 rfl) ?_
                    refine lv_iload hx hb dL_courses_165 (lv_at hl 2 rfl) ?_
                    refine lv_icmp_lt (tgt := 191) hx hb dL_courses_167 (by decide) (fun c_167 => ?_) (fun c_167 => ?_)
                    · refine lv_iconst (v := 1) hx hb dL_courses_191 (by decide) ?_
                      refine lv_goto (tgt := 196) hx hb dL_courses_192 (by decide) ?_
                      exact j196 1 (Or.inl ⟨rfl, Or.inr (Or.inr (Or.inl ⟨⟨i_le c_140, i_le c_147, i_le c_152, i_le c_160⟩, Or.inl c_167⟩))⟩) _ _ _ hH (lv_sub hl [0, 1, 2, 3, 4, 5, 6, 7, 8, 9, 10] rfl)
                    · refine lv_iload hx hb dL_courses_170 (lv_at hl 1 rfl) ?_
                      refine lv_sipush (v := 200) hx hb dL_courses_172 (by decide) ?_
                      refine lv_icmp_gt (tgt := 191) hx hb dL_courses_175 (by decide) (fun c_175 => ?_) (fun c_175 => ?_)
                      · refine lv_iconst (v := 1) hx hb dL_courses_191 (by decide) ?_
                        refine lv_goto (tgt := 196) hx hb dL_courses_192 (by decide) ?_
                        exact j196 1 (Or.inl ⟨rfl, Or.inr (Or.inr (Or.inl ⟨⟨i_le c_140, i_le c_147, i_le c_152, i_le c_160⟩, Or.inr c_175⟩))⟩) _ _ _ hH (lv_sub hl [0, 1, 2, 3, 4, 5, 6, 7, 8, 9, 10] rfl)
                      · refine lv_iload hx hb dL_courses_178 (lv_at hl 0 rfl) ?_
                        refine lv_iconst (v := 1) hx hb dL_courses_180 (by decide) ?_
                        refine lv_icmp_lt (tgt := 191) hx hb dL_courses_181 (by decide) (fun c_181 => ?_) (fun c_181 => ?_)
                        · refine lv_iconst (v := 1) hx hb dL_courses_191 (by decide) ?_
                          refine lv_goto (tgt := 196) hx hb dL_courses_192 (by decide) ?_
                          exact j196 1 (Or.inl ⟨rfl, Or.inr (Or.inr (Or.inr ⟨⟨i_le c_140, i_le c_147, i_le c_152, i_le c_160, i_le c_167, i_le c_175⟩, Or.inl c_181⟩))⟩) _ _ _ hH (lv_sub hl [0, 1, 2, 3, 4, 5, 6, 7, 8, 9, 10] rfl)
                        · refine lv_iload hx hb dL_courses_184 (lv_at hl 0 rfl) ?_
                          refine lv_bipush (v := 40) hx hb dL_courses_186 (by decide) ?_
                          refine lv_icmp_le (tgt := 195) hx hb dL_courses_188 (by decide) (fun c_188 => ?_) (fun c_188 => ?_)
                          · refine lv_iconst (v := 0) hx hb dL_courses_195 (by decide) ?_
                            exact j196 0 (Or.inr ⟨rfl, i_le c_140, i_le c_147, c_181, okN (m := 40) (lo := 1) c_188 (by omega) c_152 c_160 c_167 c_175 c_181 (by decide)⟩) _ _ _ hH (lv_sub hl [0, 1, 2, 3, 4, 5, 6, 7, 8, 9, 10] rfl)
                          · refine lv_iconst (v := 1) hx hb dL_courses_191 (by decide) ?_
                            refine lv_goto (tgt := 196) hx hb dL_courses_192 (by decide) ?_
                            exact j196 1 (Or.inl ⟨rfl, Or.inr (Or.inr (Or.inr ⟨⟨i_le c_140, i_le c_147, i_le c_152, i_le c_160, i_le c_167, i_le c_175⟩, Or.inr (i_lt c_188)⟩))⟩) _ _ _ hH (lv_sub hl [0, 1, 2, 3, 4, 5, 6, 7, 8, 9, 10] rfl)
          refine lv_if_eq (tgt := 124) hx hb dL_courses_107 (by decide) (fun c_107 => ?_) (fun c_107 => ?_)
          · refine lv_iconst (v := 1) hx hb dL_courses_124 (by decide) ?_
            refine lv_iload_n hx hb dL_courses_125 rfl (lv_at hl 8 rfl) ?_
            refine lv_bipush (v := 9) hx hb dL_courses_126 (by decide) ?_
            refine lv_ishr hx hb dL_courses_128 ?_
            refine lv_bipush (v := 22) hx hb dL_courses_129 (by decide) ?_
            refine callSI (rest := [.int 1]) F (c_some l G (sW G q n nc t fl fd k wd wf wa cd cf) (z0 >>> (9 &&& 31)) 22 (by decide)) gL_courses_L_some rfl hdL_some ⟨Nat.le_of_ble_eq_true rfl, Nat.le_of_ble_eq_true rfl⟩ ([] : va_W) (gC G o v) hH (by simp only [List.nil_append, List.append_nil]) rfl hl.1 (Nat.le_of_ble_eq_true rfl) dL_courses_131 ⟨(Nat.le_of_ble_eq_true rfl), (Nat.le_of_ble_eq_true rfl)⟩ rfl (fun u H locs hH => ?_)
            rw [List.nil_append] at hH
            have hH : HH G A s (sW G q n nc t fl fd k wd wf wa cd cf ++ gC G o v) H locs := hH
            refine lv_iadd hx hb dL_courses_134 ?_
            refine W.widen (k := 0 + 0 + 0 + 0) (n := 0 + 0 + 0 + 0) (Nat.le_of_ble_eq_true rfl) (Nat.le_of_ble_eq_true rfl) ?_
            exact j135 _ _ _ _ hH (lv_sub hl [0, 1, 2, 3, 4, 5, 6, 7, 8, 9] rfl)
          · refine lv_iload_n hx hb dL_courses_110 rfl (lv_at hl 8 rfl) ?_
            refine lv_bipush (v := 9) hx hb dL_courses_111 (by decide) ?_
            refine lv_ishr hx hb dL_courses_113 ?_
            refine lv_bipush (v := 44) hx hb dL_courses_114 (by decide) ?_
            refine callSI (rest := []) F (c_some l G (sW G q n nc t fl fd k wd wf wa cd cf) (z0 >>> (9 &&& 31)) 44 (by decide)) gL_courses_L_some rfl hdL_some ⟨Nat.le_of_ble_eq_true rfl, Nat.le_of_ble_eq_true rfl⟩ ([] : va_W) (gC G o v) hH (by simp only [List.nil_append, List.append_nil]) rfl hl.1 (Nat.le_of_ble_eq_true rfl) dL_courses_116 ⟨(Nat.le_of_ble_eq_true rfl), (Nat.le_of_ble_eq_true rfl)⟩ rfl (fun u H locs hH => ?_)
            rw [List.nil_append] at hH
            have hH : HH G A s (sW G q n nc t fl fd k wd wf wa cd cf ++ gC G o v) H locs := hH
            refine lv_iconst (v := 2) hx hb dL_courses_119 (by decide) ?_
            refine lv_isub hx hb dL_courses_120 ?_
            refine lv_goto (tgt := 135) hx hb dL_courses_121 (by decide) ?_
            refine W.widen (k := 0 + 0 + 0 + 0) (n := 0 + 0 + 0 + 0) (Nat.le_of_ble_eq_true rfl) (Nat.le_of_ble_eq_true rfl) ?_
            exact j135 _ _ _ _ hH (lv_sub hl [0, 1, 2, 3, 4, 5, 6, 7, 8, 9] rfl)
        refine lv_if_eq (tgt := 93) hx hb dL_courses_76 (by decide) (fun c_76 => ?_) (fun c_76 => ?_)
        · refine lv_iload_n hx hb dL_courses_93 rfl (lv_at hl 7 rfl) ?_
          refine lv_bipush (v := 6) hx hb dL_courses_94 (by decide) ?_
          refine lv_ishr hx hb dL_courses_96 ?_
          refine lv_bipush (v := 9) hx hb dL_courses_97 (by decide) ?_
          refine callSI (rest := [.int f]) F (c_some l G (sW G q n nc t fl fd k wd wf wa cd cf) (z0 >>> (6 &&& 31)) 9 (by decide)) gL_courses_L_some rfl hdL_some ⟨Nat.le_of_ble_eq_true rfl, Nat.le_of_ble_eq_true rfl⟩ ([] : va_W) (gC G o v) hH (by simp only [List.nil_append, List.append_nil]) rfl hl.1 (Nat.le_of_ble_eq_true rfl) dL_courses_99 ⟨(Nat.le_of_ble_eq_true rfl), (Nat.le_of_ble_eq_true rfl)⟩ rfl (fun u H locs hH => ?_)
          rw [List.nil_append] at hH
          have hH : HH G A s (sW G q n nc t fl fd k wd wf wa cd cf ++ gC G o v) H locs := hH
          refine lv_iadd hx hb dL_courses_102 ?_
          refine W.widen (k := 0 + 0 + 0 + 0) (n := 0 + 0 + 0 + 0) (Nat.le_of_ble_eq_true rfl) (Nat.le_of_ble_eq_true rfl) ?_
          exact j103 _ _ _ _ hH (lv_sub hl [0, 1, 2, 3, 4, 5, 6, 7, 8] rfl)
        · refine lv_iload_n hx hb dL_courses_79 rfl (lv_at hl 7 rfl) ?_
          refine lv_bipush (v := 6) hx hb dL_courses_80 (by decide) ?_
          refine lv_ishr hx hb dL_courses_82 ?_
          refine lv_bipush (v := 24) hx hb dL_courses_83 (by decide) ?_
          refine callSI (rest := [.int f]) F (c_some l G (sW G q n nc t fl fd k wd wf wa cd cf) (z0 >>> (6 &&& 31)) 24 (by decide)) gL_courses_L_some rfl hdL_some ⟨Nat.le_of_ble_eq_true rfl, Nat.le_of_ble_eq_true rfl⟩ ([] : va_W) (gC G o v) hH (by simp only [List.nil_append, List.append_nil]) rfl hl.1 (Nat.le_of_ble_eq_true rfl) dL_courses_85 ⟨(Nat.le_of_ble_eq_true rfl), (Nat.le_of_ble_eq_true rfl)⟩ rfl (fun u H locs hH => ?_)
          rw [List.nil_append] at hH
          have hH : HH G A s (sW G q n nc t fl fd k wd wf wa cd cf ++ gC G o v) H locs := hH
          refine lv_iconst (v := 2) hx hb dL_courses_88 (by decide) ?_
          refine lv_isub hx hb dL_courses_89 ?_
          refine lv_goto (tgt := 102) hx hb dL_courses_90 (by decide) ?_
          refine lv_iadd hx hb dL_courses_102 ?_
          refine W.widen (k := 0 + 0 + 0 + 0) (n := 0 + 0 + 0 + 0) (Nat.le_of_ble_eq_true rfl) (Nat.le_of_ble_eq_true rfl) ?_
          exact j103 _ _ _ _ hH (lv_sub hl [0, 1, 2, 3, 4, 5, 6, 7, 8] rfl)
      refine lv_if_eq (tgt := 62) hx hb dL_courses_45 (by decide) (fun c_45 => ?_) (fun c_45 => ?_)
      · refine lv_iload_n hx hb dL_courses_62 rfl (lv_at hl 6 rfl) ?_
        refine lv_iconst (v := 3) hx hb dL_courses_63 (by decide) ?_
        refine lv_ishr hx hb dL_courses_64 ?_
        refine lv_bipush (v := 50) hx hb dL_courses_65 (by decide) ?_
        refine callSI (rest := []) F (c_some l G (sW G q n nc t fl fd k wd wf wa cd cf) (z0 >>> (3 &&& 31)) 50 (by decide)) gL_courses_L_some rfl hdL_some ⟨Nat.le_of_ble_eq_true rfl, Nat.le_of_ble_eq_true rfl⟩ ([] : va_W) (gC G o v) hH (by simp only [List.nil_append, List.append_nil]) rfl hl.1 (Nat.le_of_ble_eq_true rfl) dL_courses_67 ⟨(Nat.le_of_ble_eq_true rfl), (Nat.le_of_ble_eq_true rfl)⟩ rfl (fun u H locs hH => ?_)
        rw [List.nil_append] at hH
        have hH : HH G A s (sW G q n nc t fl fd k wd wf wa cd cf ++ gC G o v) H locs := hH
        refine W.widen (k := 0 + 0 + 0 + 0) (n := 0 + 0 + 0 + 0) (Nat.le_of_ble_eq_true rfl) (Nat.le_of_ble_eq_true rfl) ?_
        exact j70 _ _ _ _ hH (lv_sub hl [0, 1, 2, 3, 4, 5, 6, 7] rfl)
      · refine lv_iload_n hx hb dL_courses_48 rfl (lv_at hl 6 rfl) ?_
        refine lv_iconst (v := 3) hx hb dL_courses_49 (by decide) ?_
        refine lv_ishr hx hb dL_courses_50 ?_
        refine lv_sipush (v := 204) hx hb dL_courses_51 (by decide) ?_
        refine callSI (rest := []) F (c_some l G (sW G q n nc t fl fd k wd wf wa cd cf) (z0 >>> (3 &&& 31)) 204 (by decide)) gL_courses_L_some rfl hdL_some ⟨Nat.le_of_ble_eq_true rfl, Nat.le_of_ble_eq_true rfl⟩ ([] : va_W) (gC G o v) hH (by simp only [List.nil_append, List.append_nil]) rfl hl.1 (Nat.le_of_ble_eq_true rfl) dL_courses_54 ⟨(Nat.le_of_ble_eq_true rfl), (Nat.le_of_ble_eq_true rfl)⟩ rfl (fun u H locs hH => ?_)
        rw [List.nil_append] at hH
        have hH : HH G A s (sW G q n nc t fl fd k wd wf wa cd cf ++ gC G o v) H locs := hH
        refine lv_iconst (v := 2) hx hb dL_courses_57 (by decide) ?_
        refine lv_isub hx hb dL_courses_58 ?_
        refine lv_goto (tgt := 70) hx hb dL_courses_59 (by decide) ?_
        refine W.widen (k := 0 + 0 + 0 + 0) (n := 0 + 0 + 0 + 0) (Nat.le_of_ble_eq_true rfl) (Nat.le_of_ble_eq_true rfl) ?_
        exact j70 _ _ _ _ hH (lv_sub hl [0, 1, 2, 3, 4, 5, 6, 7] rfl)
    refine lv_if_eq (tgt := 34) hx hb dL_courses_22 (by decide) (fun c_22 => ?_) (fun c_22 => ?_)
    · refine lv_iconst (v := 1) hx hb dL_courses_34 (by decide) ?_
      refine lv_iload_n hx hb dL_courses_35 rfl (lv_at hl 5 rfl) ?_
      refine lv_iconst (v := 3) hx hb dL_courses_36 (by decide) ?_
      refine callSI (rest := [.int 1]) F (c_some l G (sW G q n nc t fl fd k wd wf wa cd cf) z0 3 (by decide)) gL_courses_L_some rfl hdL_some ⟨Nat.le_of_ble_eq_true rfl, Nat.le_of_ble_eq_true rfl⟩ ([] : va_W) (gC G o v) hH (by simp only [List.nil_append, List.append_nil]) rfl hl.1 (Nat.le_of_ble_eq_true rfl) dL_courses_37 ⟨(Nat.le_of_ble_eq_true rfl), (Nat.le_of_ble_eq_true rfl)⟩ rfl (fun u H locs hH => ?_)
      rw [List.nil_append] at hH
      have hH : HH G A s (sW G q n nc t fl fd k wd wf wa cd cf ++ gC G o v) H locs := hH
      refine lv_iadd hx hb dL_courses_40 ?_
      refine W.widen (k := 0 + 0 + 0 + 0) (n := 0 + 0 + 0 + 0) (Nat.le_of_ble_eq_true rfl) (Nat.le_of_ble_eq_true rfl) ?_
      exact j41 _ _ _ _ hH (lv_sub hl [0, 1, 2, 3, 4, 5, 6] rfl)
    · refine lv_iload_n hx hb dL_courses_25 rfl (lv_at hl 5 rfl) ?_
      refine lv_bipush (v := 10) hx hb dL_courses_26 (by decide) ?_
      refine callSI (rest := []) F (c_some l G (sW G q n nc t fl fd k wd wf wa cd cf) z0 10 (by decide)) gL_courses_L_some rfl hdL_some ⟨Nat.le_of_ble_eq_true rfl, Nat.le_of_ble_eq_true rfl⟩ ([] : va_W) (gC G o v) hH (by simp only [List.nil_append, List.append_nil]) rfl hl.1 (Nat.le_of_ble_eq_true rfl) dL_courses_28 ⟨(Nat.le_of_ble_eq_true rfl), (Nat.le_of_ble_eq_true rfl)⟩ rfl (fun u H locs hH => ?_)
      rw [List.nil_append] at hH
      have hH : HH G A s (sW G q n nc t fl fd k wd wf wa cd cf ++ gC G o v) H locs := hH
      refine lv_goto (tgt := 41) hx hb dL_courses_31 (by decide) ?_
      refine W.widen (k := 0 + 0 + 0 + 0) (n := 0 + 0 + 0 + 0) (Nat.le_of_ble_eq_true rfl) (Nat.le_of_ble_eq_true rfl) ?_
      exact j41 _ _ _ _ hH (lv_sub hl [0, 1, 2, 3, 4, 5, 6] rfl)
