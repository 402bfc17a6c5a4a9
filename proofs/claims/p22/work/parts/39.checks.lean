set_option maxHeartbeats 8000000 in
set_option maxRecDepth 100000 in
theorem c_checks (l : Launch) (hst : l.stackTraces = false) (G : Gx) (q : Nat → Nat) (n nc t : Nat) (fl fd : Int32) (k : Nat → Int32) (wd : Nat → Nat → Nat) (wf : Nat → Nat → Int32) (wa : Nat → Nat → Nat → Int32) (cd : Nat → Nat) (cf : Nat → Nat → Int32) (x0 z0 od : Int32) (hI : IN n nc t fl fd k wf wa cf) : MP l yL_checks wsL_checks ({ frames := 10, cells := 8, slots := 48, locals := 240 } : Room) [.ref (q 0), .int x0, .int z0, .int od] G (sW G q n nc t fl fd k wd wf wa cd cf) (PSI G q nc fl) := by
  refine ofMP (cc := cL_checks) (maxL := 22) (ret := (some .boolean)) (by decide) rfl (Nat.le_of_ble_eq_true rfl) (fun p e s m below meth c A ls F hr hnm hH hl => ?_)
  have F : Fx G p s m _ meth c cL_checks 22 wsL_checks RL A := F
  have hx := F.1.1
  have hb := F.1.2.1
  have hl : lv_has ls 22 [(0, .ref (q 0)), (1, .int x0), (2, .int z0), (3, .int od)] := hl
  have hn : n ≤ 8 := hI.1
  have hnc : nc ≤ 10 := hI.2.1
  have ht : t ≤ 201 := hI.2.2.1
  have hW := hI.2.2.2.2.1
  obtain ⟨d, D, hd1, hD, hd2, hd3⟩ := hI.2.2.2.2.2.2
  have hd4 := cntK_le k 201
  refine lv_aload_n hx hb dL_checks_0 rfl (lv_at hl 0 rfl) ?_
  refine callVI (rest := []) F (c_X2_workers l G q n nc t fl fd k wd wf wa cd cf) gL_checks_X2_workers rfl hdX2_workers ⟨Nat.le_of_ble_eq_true rfl, Nat.le_of_ble_eq_true rfl⟩ ([] : va_W) ([] : va_W) hH (by simp only [List.nil_append, List.append_nil]) ⟨0, 2, _, _, rfl, rfl, rfl⟩ rfl hl.1 (Nat.le_of_ble_eq_true rfl) dL_checks_1 ⟨(Nat.le_of_ble_eq_true rfl), (Nat.le_of_ble_eq_true rfl)⟩ rfl (fun u H locs hH => ?_)
  rw [List.nil_append, List.append_nil] at hH
  have hH : HH G A s (sW G q n nc t fl fd k wd wf wa cd cf) H locs := hH
  refine lv_istore (lv' := [(4, .int (nI n)), (0, .ref (q 0)), (1, .int x0), (2, .int z0), (3, .int od)]) hx hb dL_checks_4 hl (by decide) rfl (fun ls hl => ?_)
  refine lv_aload_n hx hb dL_checks_6 rfl (lv_at hl 1 rfl) ?_
  refine callVI (rest := []) F (c_X2_week l G q n nc t fl fd k wd wf wa cd cf) gL_checks_X2_week rfl hdX2_week ⟨Nat.le_of_ble_eq_true rfl, Nat.le_of_ble_eq_true rfl⟩ ([] : va_W) ([] : va_W) hH (by simp only [List.nil_append, List.append_nil]) ⟨0, 2, _, _, rfl, rfl, rfl⟩ rfl hl.1 (Nat.le_of_ble_eq_true rfl) dL_checks_7 ⟨(Nat.le_of_ble_eq_true rfl), (Nat.le_of_ble_eq_true rfl)⟩ rfl (fun u H locs hH => ?_)
  rw [List.nil_append, List.append_nil] at hH
  have hH : HH G A s (sW G q n nc t fl fd k wd wf wa cd cf) H locs := hH
  refine lv_istore (lv' := [(5, .int (nI t)), (4, .int (nI n)), (0, .ref (q 0)), (1, .int x0), (2, .int z0), (3, .int od)]) hx hb dL_checks_10 hl (by decide) rfl (fun ls hl => ?_)
  refine lv_iload_n hx hb dL_checks_12 rfl (lv_at hl 5 rfl) ?_
  have j44 : ∀ (wk : Int32) (H : Heap) (locs : List Loc) (ls : Array Slot), HH G A s (sW G q n nc t fl fd k wd wf wa cd cf) H locs → lv_has ls 22 [(5, .int (nI t)), (4, .int (nI n)), (0, .ref (q 0)), (1, .int x0), (2, .int z0), (3, .int od)] → W p l e ({ frames := 10, cells := 8, slots := 48, locals := 240 } : Room) s m [.ref (q 0), .int x0, .int z0, .int od].toArray below meth c H locs (0 + 0 + 0) (0 + 0 + 0) (EnP G A below s [.ref (q 0), .int x0, .int z0, .int od].toArray ({ frames := 10, cells := 8, slots := 48, locals := 240 } : Room) (PSI G q nc fl)) (F0 m 44 ls [.int wk]) := by
    intro wk H locs ls hH hl
    refine lv_istore (lv' := [(6, .int wk), (5, .int (nI t)), (4, .int (nI n)), (0, .ref (q 0)), (1, .int x0), (2, .int z0), (3, .int od)]) hx hb dL_checks_44 hl (by decide) rfl (fun ls hl => ?_)
    refine lv_iload hx hb dL_checks_46 (lv_at hl 0 rfl) ?_
    have j63 : ∀ (ps : Int32) (hps : (ps = 0 ∧ (wk < 0 ∨ nI t ≤ wk)) ∨ (ps = 1 ∧ ∃ j : Nat, j < t ∧ wk = nI j)) (H : Heap) (locs : List Loc) (ls : Array Slot), HH G A s (sW G q n nc t fl fd k wd wf wa cd cf) H locs → lv_has ls 22 [(6, .int wk), (5, .int (nI t)), (4, .int (nI n)), (0, .ref (q 0)), (1, .int x0), (2, .int z0), (3, .int od)] → W p l e ({ frames := 10, cells := 8, slots := 48, locals := 240 } : Room) s m [.ref (q 0), .int x0, .int z0, .int od].toArray below meth c H locs (0 + 0 + 0) (0 + 0 + 0) (EnP G A below s [.ref (q 0), .int x0, .int z0, .int od].toArray ({ frames := 10, cells := 8, slots := 48, locals := 240 } : Room) (PSI G q nc fl)) (F0 m 63 ls [.int ps]) := by
      intro ps hps H locs ls hH hl
      refine lv_istore (lv' := [(7, .int ps), (6, .int wk), (5, .int (nI t)), (4, .int (nI n)), (0, .ref (q 0)), (1, .int x0), (2, .int z0), (3, .int od)]) hx hb dL_checks_63 hl (by decide) rfl (fun ls hl => ?_)
      refine lv_iload_n hx hb dL_checks_65 rfl (lv_at hl 7 rfl) ?_
      have j97 : ∀ (w : Int32) (H : Heap) (locs : List Loc) (ls : Array Slot), HH G A s (sW G q n nc t fl fd k wd wf wa cd cf) H locs → lv_has ls 22 [(7, .int ps), (6, .int wk), (5, .int (nI t)), (4, .int (nI n)), (0, .ref (q 0)), (1, .int x0), (2, .int z0), (3, .int od)] → W p l e ({ frames := 10, cells := 8, slots := 48, locals := 240 } : Room) s m [.ref (q 0), .int x0, .int z0, .int od].toArray below meth c H locs (0 + 0 + 0) (0 + 0 + 0) (EnP G A below s [.ref (q 0), .int x0, .int z0, .int od].toArray ({ frames := 10, cells := 8, slots := 48, locals := 240 } : Room) (PSI G q nc fl)) (F0 m 97 ls [.int w]) := by
        intro w H locs ls hH hl
        refine lv_istore (lv' := [(8, .int w), (7, .int ps), (6, .int wk), (5, .int (nI t)), (4, .int (nI n)), (0, .ref (q 0)), (1, .int x0), (2, .int z0), (3, .int od)]) hx hb dL_checks_97 hl (by decide) rfl (fun ls hl => ?_)
        refine lv_iload hx hb dL_checks_99 (lv_at hl 0 rfl) ?_
        have j116 : ∀ (o : Int32) (ho : (o = 1 ∧ (w < 0 ∨ nI n ≤ w)) ∨ (o = 0 ∧ ∃ i : Nat, i < n ∧ w = nI i)) (H : Heap) (locs : List Loc) (ls : Array Slot), HH G A s (sW G q n nc t fl fd k wd wf wa cd cf) H locs → lv_has ls 22 [(8, .int w), (7, .int ps), (6, .int wk), (5, .int (nI t)), (4, .int (nI n)), (0, .ref (q 0)), (1, .int x0), (2, .int z0), (3, .int od)] → W p l e ({ frames := 10, cells := 8, slots := 48, locals := 240 } : Room) s m [.ref (q 0), .int x0, .int z0, .int od].toArray below meth c H locs (0 + 0 + 0) (0 + 0 + 0) (EnP G A below s [.ref (q 0), .int x0, .int z0, .int od].toArray ({ frames := 10, cells := 8, slots := 48, locals := 240 } : Room) (PSI G q nc fl)) (F0 m 116 ls [.int o]) := by
          intro o ho H locs ls hH hl
          refine lv_istore (lv' := [(9, .int o), (8, .int w), (7, .int ps), (6, .int wk), (5, .int (nI t)), (4, .int (nI n)), (0, .ref (q 0)), (1, .int x0), (2, .int z0), (3, .int od)]) hx hb dL_checks_116 hl (by decide) rfl (fun ls hl => ?_)
          refine lv_iload_n hx hb dL_checks_118 rfl (lv_at hl 9 rfl) ?_
          have j145 : ∀ (hh : Int32) (H : Heap) (locs : List Loc) (ls : Array Slot), HH G A s (sW G q n nc t fl fd k wd wf wa cd cf) H locs → lv_has ls 22 [(9, .int o), (8, .int w), (7, .int ps), (6, .int wk), (5, .int (nI t)), (4, .int (nI n)), (0, .ref (q 0)), (1, .int x0), (2, .int z0), (3, .int od)] → W p l e ({ frames := 10, cells := 8, slots := 48, locals := 240 } : Room) s m [.ref (q 0), .int x0, .int z0, .int od].toArray below meth c H locs (0 + 0 + 0) (0 + 0 + 0) (EnP G A below s [.ref (q 0), .int x0, .int z0, .int od].toArray ({ frames := 10, cells := 8, slots := 48, locals := 240 } : Room) (PSI G q nc fl)) (F0 m 145 ls [.int hh]) := by
            intro hh H locs ls hH hl
            refine lv_istore (lv' := [(10, .int hh), (9, .int o), (8, .int w), (7, .int ps), (6, .int wk), (5, .int (nI t)), (4, .int (nI n)), (0, .ref (q 0)), (1, .int x0), (2, .int z0), (3, .int od)]) hx hb dL_checks_145 hl (by decide) rfl (fun ls hl => ?_)
            refine lv_aload_n hx hb dL_checks_147 rfl (lv_at hl 7 rfl) ?_
            refine callSL (rest := []) F (c_all l G q n nc t fl fd k wd wf wa cd cf hn) gL_checks_L_all rfl hdL_all ⟨Nat.le_of_ble_eq_true rfl, Nat.le_of_ble_eq_true rfl⟩ ([] : va_W) ([] : va_W) hH (by simp only [List.nil_append, List.append_nil]) rfl hl.1 (Nat.le_of_ble_eq_true rfl) dL_checks_148 ⟨(Nat.le_of_ble_eq_true rfl), (Nat.le_of_ble_eq_true rfl)⟩ rfl (fun H locs hH => ?_)
            have j194 : ∀ (td ml : Int32) (wa2 : Nat → Nat → Nat → Int32) (hI2 : IN n nc t fl fd k wf wa2 cf) (hall : allS n t fd wf wa2 = allS n t fd wf wa) (hc : (o = 1 ∧ td = -61 ∧ (ml = 0 ∨ ml = -61)) ∨ (o = 0 ∧ ps = 0 ∧ td = -62 ∧ (ml = 0 ∨ ml = -62)) ∨ (o = 0 ∧ ps = 1 ∧ (hh < 0 ∨ 80 < hh) ∧ td = -62) ∨ (o = 0 ∧ ps = 1 ∧ ¬ hh < 0 ∧ ¬ 80 < hh ∧ (td = 0 ∨ td = -63))) (h6 : td = 0 → o = 0 → ∃ i j : Nat, i < n ∧ j < t ∧ w = nI i ∧ wk = nI j ∧ wa2 i 6 j = hh) (H : Heap) (locs : List Loc) (ls : Array Slot), HH G A s (sW G q n nc t fl fd k wd wf wa2 cd cf) H locs → lv_has ls 22 [(13, .int td), (11, .long (allS n t fd wf wa)), (10, .int hh), (9, .int o), (8, .int w), (7, .int ps), (6, .int wk), (5, .int (nI t)), (4, .int (nI n)), (3, .int od), (2, .int z0), (1, .int x0), (0, .ref (q 0))] → W p l e ({ frames := 10, cells := 8, slots := 48, locals := 240 } : Room) s m [.ref (q 0), .int x0, .int z0, .int od].toArray below meth c H locs (2) (12) (EnP G A below s [.ref (q 0), .int x0, .int z0, .int od].toArray ({ frames := 10, cells := 8, slots := 48, locals := 240 } : Room) (PSI G q nc fl)) (F0 m 194 ls [.int ml]) := by
              intro td ml wa2 hI2 hall hc h6 H locs ls hH hl
              refine lv_istore (lv' := [(14, .int ml), (13, .int td), (11, .long (allS n t fd wf wa)), (10, .int hh), (9, .int o), (8, .int w), (7, .int ps), (6, .int wk), (5, .int (nI t)), (4, .int (nI n)), (3, .int od), (2, .int z0), (1, .int x0), (0, .ref (q 0))]) hx hb dL_checks_194 hl (by decide) rfl (fun ls hl => ?_)
              refine lv_aload_n hx hb dL_checks_196 rfl (lv_at hl 13 rfl) ?_
              refine callSL (rest := []) F (c_all l G q n nc t fl fd k wd wf wa2 cd cf hn) gL_checks_L_all rfl hdL_all ⟨Nat.le_of_ble_eq_true rfl, Nat.le_of_ble_eq_true rfl⟩ ([] : va_W) ([] : va_W) hH (by simp only [List.nil_append, List.append_nil]) rfl hl.1 (Nat.le_of_ble_eq_true rfl) dL_checks_197 ⟨(Nat.le_of_ble_eq_true rfl), (Nat.le_of_ble_eq_true rfl)⟩ rfl (fun H locs hH => ?_)
              refine lv_lload hx hb dL_checks_200 (lv_at hl 2 rfl) ?_
              refine W.lcmp hx hb dL_checks_202 ?_
              refine lv_if_ne (tgt := 300) hx hb dL_checks_203 (by decide) (fun c_203 => absurd (by rw [hall]; exact lg_self _) c_203) (fun c_203 => ?_)
              have j303 : ∀  (H : Heap) (locs : List Loc) (ls : Array Slot), HH G A s (sW G q n nc t fl fd k wd wf wa2 cd cf) H locs → lv_has ls 22 [(15, .int 1), (13, .int td), (11, .long (allS n t fd wf wa)), (10, .int hh), (9, .int o), (8, .int w), (7, .int ps), (6, .int wk), (5, .int (nI t)), (4, .int (nI n)), (1, .int x0), (0, .ref (q 0))] → W p l e ({ frames := 10, cells := 8, slots := 48, locals := 240 } : Room) s m [.ref (q 0), .int x0, .int z0, .int od].toArray below meth c H locs (2 + 0) (12 + 0) (EnP G A below s [.ref (q 0), .int x0, .int z0, .int od].toArray ({ frames := 10, cells := 8, slots := 48, locals := 240 } : Room) (PSI G q nc fl)) (F0 m 303 ls []) := by
                intro  H locs ls hH hl
                refine lv_iload hx hb dL_checks_303 (lv_at hl 0 rfl) ?_
                refine lv_if_eq (tgt := 319) hx hb dL_checks_305 (by decide) (fun c_305 => absurd c_305 (by decide)) (fun c_305 => ?_)
                refine lv_iload_n hx hb dL_checks_308 rfl (lv_at hl 10 rfl) ?_
                refine lv_bipush (v := 6) hx hb dL_checks_309 (by decide) ?_
                refine lv_ishr hx hb dL_checks_311 ?_
                refine lv_iconst (v := 3) hx hb dL_checks_312 (by decide) ?_
                refine callSI (rest := []) F (c_some l G (sW G q n nc t fl fd k wd wf wa2 cd cf) (x0 >>> (6 &&& 31)) 3 (by decide)) gL_checks_L_some rfl hdL_some ⟨Nat.le_of_ble_eq_true rfl, Nat.le_of_ble_eq_true rfl⟩ ([] : va_W) ([] : va_W) hH (by simp only [List.nil_append, List.append_nil]) rfl hl.1 (Nat.le_of_ble_eq_true rfl) dL_checks_313 ⟨(Nat.le_of_ble_eq_true rfl), (Nat.le_of_ble_eq_true rfl)⟩ rfl (fun u H locs hH => ?_)
                rw [List.nil_append, List.append_nil] at hH
                have hH : HH G A s (sW G q n nc t fl fd k wd wf wa2 cd cf) H locs := hH
                refine lv_if_le (tgt := 322) hx hb dL_checks_316 (by decide) (fun c_316 => ?_) (fun c_316 => ?_)
                · refine lv_aload_n hx hb dL_checks_322 rfl (lv_at hl 11 rfl) ?_
                  refine callVI (rest := []) F (c_X2_firmOwes l G q n nc t fl fd k wd wf wa2 cd cf) gL_checks_X2_firmOwes rfl hdX2_firmOwes ⟨Nat.le_of_ble_eq_true rfl, Nat.le_of_ble_eq_true rfl⟩ ([] : va_W) ([] : va_W) hH (by simp only [List.nil_append, List.append_nil]) ⟨0, 2, _, _, rfl, rfl, rfl⟩ rfl hl.1 (Nat.le_of_ble_eq_true rfl) dL_checks_323 ⟨(Nat.le_of_ble_eq_true rfl), (Nat.le_of_ble_eq_true rfl)⟩ rfl (fun u H locs hH => ?_)
                  rw [List.nil_append, List.append_nil] at hH
                  have hH : HH G A s (sW G q n nc t fl fd k wd wf wa2 cd cf) H locs := hH
                  rcases ho with ⟨ho, hw⟩ | ⟨ho, i, hi, hw⟩
                  · refine lv_istore (lv' := [(16, .int fd), (15, .int 1), (13, .int td), (11, .long (allS n t fd wf wa)), (10, .int hh), (9, .int o), (8, .int w), (7, .int ps), (6, .int wk), (5, .int (nI t)), (4, .int (nI n)), (1, .int x0), (0, .ref (q 0))]) hx hb dL_checks_326 hl (by decide) rfl (fun ls hl => ?_)
                    refine lv_iload hx hb dL_checks_328 (lv_at hl 5 rfl) ?_
                    refine lv_if_eq (tgt := 337) hx hb dL_checks_330 (by decide) (fun c_330 => absurd c_330 (by rw [ho]; decide)) (fun c_330 => ?_)
                    rcases hps with ⟨hps, hwk⟩ | ⟨hps, j, hj, hwk⟩
                    · refine lv_iconst (v := 0) hx hb dL_checks_333 (by decide) ?_
                      refine lv_goto (tgt := 343) hx hb dL_checks_334 (by decide) ?_
                      refine lv_istore (lv' := [(17, .int 0), (16, .int fd), (15, .int 1), (13, .int td), (11, .long (allS n t fd wf wa)), (10, .int hh), (9, .int o), (8, .int w), (7, .int ps), (6, .int wk), (5, .int (nI t)), (4, .int (nI n)), (1, .int x0), (0, .ref (q 0))]) hx hb dL_checks_343 hl (by decide) rfl (fun ls hl => ?_)
                      refine lv_aload_n hx hb dL_checks_345 rfl (lv_at hl 13 rfl) ?_
                      refine lv_bipush (v := 13) hx hb dL_checks_346 (by decide) ?_
                      refine lv_iload hx hb dL_checks_348 (lv_at hl 9 rfl) ?_
                      refine lv_iconst (v := 0) hx hb dL_checks_350 (by decide) ?_
                      refine lv_iconst (v := 0) hx hb dL_checks_351 (by decide) ?_
                      refine lv_iconst (v := 0) hx hb dL_checks_352 (by decide) ?_
                      refine callLI (rest := []) F (k_check_2 l hst G q n nc t fl fd k wd wf wa2 cd cf ht wk hwk 0 0 0) gL_checks_L_call rfl hdL_call ⟨Nat.le_of_ble_eq_true rfl, Nat.le_of_ble_eq_true rfl⟩ ([] : va_W) ([] : va_W) hH (by simp only [List.nil_append, List.append_nil]) rfl hl.1 (Nat.le_of_ble_eq_true rfl) dL_checks_353 ⟨(Nat.le_of_ble_eq_true rfl), (Nat.le_of_ble_eq_true rfl)⟩ rfl (fun u H locs hH => ?_)
                      rw [List.nil_append, List.append_nil] at hH
                      have hH : HH G A s (sW G q n nc t fl fd k wd wf wa2 cd cf) H locs := hH
                      refine lv_istore (lv' := [(18, .int (-62)), (17, .int 0), (16, .int fd), (15, .int 1), (13, .int td), (11, .long (allS n t fd wf wa)), (10, .int hh), (9, .int o), (8, .int w), (7, .int ps), (6, .int wk), (5, .int (nI t)), (4, .int (nI n)), (1, .int x0), (0, .ref (q 0))]) hx hb dL_checks_356 hl (by decide) rfl (fun ls hl => ?_)
                      refine lv_iload hx hb dL_checks_358 (lv_at hl 0 rfl) ?_
                      refine lv_if_ge (tgt := 396) hx hb dL_checks_360 (by decide) (fun c_360 => absurd c_360 (by decide)) (fun c_360 => ?_)
                      refine lv_aload_n hx hb dL_checks_363 rfl (lv_at hl 14 rfl) ?_
                      refine callSL (rest := []) F (c_all l G q n nc t fl fd k wd wf wa2 cd cf hn) gL_checks_L_all rfl hdL_all ⟨Nat.le_of_ble_eq_true rfl, Nat.le_of_ble_eq_true rfl⟩ ([] : va_W) ([] : va_W) hH (by simp only [List.nil_append, List.append_nil]) rfl hl.1 (Nat.le_of_ble_eq_true rfl) dL_checks_364 ⟨(Nat.le_of_ble_eq_true rfl), (Nat.le_of_ble_eq_true rfl)⟩ rfl (fun H locs hH => ?_)
                      refine lv_lload hx hb dL_checks_367 (lv_at hl 5 rfl) ?_
                      refine W.lcmp hx hb dL_checks_369 ?_
                      refine lv_if_ne (tgt := 394) hx hb dL_checks_370 (by decide) (fun c_370 => absurd (by rw [hall]; exact lg_self _) c_370) (fun c_370 => ?_)
                      refine lv_iload hx hb dL_checks_373 (lv_at hl 0 rfl) ?_
                      refine lv_iload hx hb dL_checks_375 (lv_at hl 9 rfl) ?_
                      refine lv_if_eq (tgt := 385) hx hb dL_checks_377 (by decide) (fun c_377 => ?_) (fun c_377 => absurd hps c_377)
                      refine lv_bipush (v := (-62)) hx hb dL_checks_385 (by decide) ?_
                      refine lv_icmp_ne (tgt := 394) hx hb dL_checks_387 (by decide) (fun c_387 => absurd rfl c_387) (fun c_387 => ?_)
                      refine lv_iconst (v := 1) hx hb dL_checks_390 (by decide) ?_
                      refine lv_goto (tgt := 395) hx hb dL_checks_391 (by decide) ?_
                      exact retP F hr rfl hH (PSI_mk hI2) (Nat.le_of_ble_eq_true rfl) (Nat.le_of_ble_eq_true rfl) dL_checks_395
                    · subst hwk
                      by_cases hk : k j = 0
                      · refine lv_iconst (v := 0) hx hb dL_checks_333 (by decide) ?_
                        refine lv_goto (tgt := 343) hx hb dL_checks_334 (by decide) ?_
                        refine lv_istore (lv' := [(17, .int 0), (16, .int fd), (15, .int 1), (13, .int td), (11, .long (allS n t fd wf wa)), (10, .int hh), (9, .int o), (8, .int w), (7, .int ps), (6, .int (nI j)), (5, .int (nI t)), (4, .int (nI n)), (1, .int x0), (0, .ref (q 0))]) hx hb dL_checks_343 hl (by decide) rfl (fun ls hl => ?_)
                        refine lv_aload_n hx hb dL_checks_345 rfl (lv_at hl 13 rfl) ?_
                        refine lv_bipush (v := 13) hx hb dL_checks_346 (by decide) ?_
                        refine lv_iload hx hb dL_checks_348 (lv_at hl 9 rfl) ?_
                        refine lv_iconst (v := 0) hx hb dL_checks_350 (by decide) ?_
                        refine lv_iconst (v := 0) hx hb dL_checks_351 (by decide) ?_
                        refine lv_iconst (v := 0) hx hb dL_checks_352 (by decide) ?_
                        refine callLI (rest := []) F (k_check_1 l G q n nc t fl fd k wd wf wa2 cd cf hn ht j hj hk 0 0 0) gL_checks_L_call rfl hdL_call ⟨Nat.le_of_ble_eq_true rfl, Nat.le_of_ble_eq_true rfl⟩ ([] : va_W) ([] : va_W) hH (by simp only [List.nil_append, List.append_nil]) rfl hl.1 (Nat.le_of_ble_eq_true rfl) dL_checks_353 ⟨(Nat.le_of_ble_eq_true rfl), (Nat.le_of_ble_eq_true rfl)⟩ rfl (fun u H locs hH => ?_)
                        rw [List.nil_append, List.append_nil] at hH
                        have hH : HH G A s (sW G q n nc t fl (ckD wa2 j fd n) (upd k j 1) wd (ckF wf wa2 j n) wa2 cd cf) H locs := hH
                        obtain ⟨hI3, D, D2, f1, f2, f3, f4⟩ := IN_check hI2 hj hk
                        obtain ⟨cn, g1, g2, g3, g4⟩ := ckC_nat wf wa2 j fd n
                        have h11 : ∀ i, ckF wf wa2 j n i 11 = wf i 11 ∨ ckF wf wa2 j n i 11 = wf i 11 + wa2 i 5 j / 2 := fun i => ckF_11 n
                        obtain ⟨fd3, hfd3⟩ : ∃ x, x = ckD wa2 j fd n := ⟨_, rfl⟩
                        obtain ⟨wf3, hwf3⟩ : ∃ x, x = ckF wf wa2 j n := ⟨_, rfl⟩
                        obtain ⟨k3, hk3⟩ : ∃ x, x = upd k j 1 := ⟨_, rfl⟩
                        have hkj : ¬ k3 j = 0 := by rw [hk3, pk_us]; decide
                        rw [← hfd3, ← hwf3, ← hk3] at hH hI3
                        rw [← hfd3] at f2
                        rw [← hwf3, ← hfd3] at g3
                        rw [← hwf3] at h11
                        clear hfd3 hwf3 hk3
                        refine lv_istore (lv' := [(18, .int (ckC wa2 j n)), (17, .int 0), (16, .int fd), (15, .int 1), (13, .int td), (11, .long (allS n t fd wf wa)), (10, .int hh), (9, .int o), (8, .int w), (7, .int ps), (6, .int (nI j)), (5, .int (nI t)), (4, .int (nI n)), (1, .int x0), (0, .ref (q 0))]) hx hb dL_checks_356 hl (by decide) rfl (fun ls hl => ?_)
                        refine lv_iload hx hb dL_checks_358 (lv_at hl 0 rfl) ?_
                        refine lv_if_ge (tgt := 396) hx hb dL_checks_360 (by decide) (fun c_360 => ?_) (fun c_360 => absurd (by rw [g2]; exact nI_0le (by omega)) c_360)
                        refine lv_iload hx hb dL_checks_396 (lv_at hl 9 rfl) ?_
                        refine lv_if_eq (tgt := 461) hx hb dL_checks_398 (by decide) (fun c_398 => absurd c_398 (by rw [hps]; decide)) (fun c_398 => ?_)
                        refine lv_iload hx hb dL_checks_401 (lv_at hl 0 rfl) ?_
                        refine lv_iload hx hb dL_checks_403 (lv_at hl 12 rfl) ?_
                        refine lv_icmp_gt (tgt := 461) hx hb dL_checks_405 (by decide) (fun c_405 => absurd c_405 (by rw [g2]; exact nI_nlt g1 (by omega))) (fun c_405 => ?_)
                        refine lv_aload_n hx hb dL_checks_408 rfl (lv_at hl 14 rfl) ?_
                        refine lv_bipush (v := 13) hx hb dL_checks_409 (by decide) ?_
                        refine lv_iload hx hb dL_checks_411 (lv_at hl 10 rfl) ?_
                        refine lv_iconst (v := 0) hx hb dL_checks_413 (by decide) ?_
                        refine lv_iconst (v := 0) hx hb dL_checks_414 (by decide) ?_
                        refine lv_iconst (v := 0) hx hb dL_checks_415 (by decide) ?_
                        refine callLI (rest := []) F (k_check_3 l hst G q n nc t fl fd3 k3 wd wf3 wa2 cd cf ht j hj hkj 0 0 0) gL_checks_L_call rfl hdL_call ⟨Nat.le_of_ble_eq_true rfl, Nat.le_of_ble_eq_true rfl⟩ ([] : va_W) ([] : va_W) hH (by simp only [List.nil_append, List.append_nil]) rfl hl.1 (Nat.le_of_ble_eq_true rfl) dL_checks_416 ⟨(Nat.le_of_ble_eq_true rfl), (Nat.le_of_ble_eq_true rfl)⟩ rfl (fun u H locs hH => ?_)
                        rw [List.nil_append, List.append_nil] at hH
                        have hH : HH G A s (sW G q n nc t fl fd3 k3 wd wf3 wa2 cd cf) H locs := hH
                        refine lv_bipush (v := (-63)) hx hb dL_checks_419 (by decide) ?_
                        refine lv_icmp_ne (tgt := 461) hx hb dL_checks_421 (by decide) (fun c_421 => absurd rfl c_421) (fun c_421 => ?_)
                        refine lv_aload_n hx hb dL_checks_424 rfl (lv_at hl 14 rfl) ?_
                        refine callVI (rest := []) F (c_X2_firmOwes l G q n nc t fl fd3 k3 wd wf3 wa2 cd cf) gL_checks_X2_firmOwes rfl hdX2_firmOwes ⟨Nat.le_of_ble_eq_true rfl, Nat.le_of_ble_eq_true rfl⟩ ([] : va_W) ([] : va_W) hH (by simp only [List.nil_append, List.append_nil]) ⟨0, 2, _, _, rfl, rfl, rfl⟩ rfl hl.1 (Nat.le_of_ble_eq_true rfl) dL_checks_425 ⟨(Nat.le_of_ble_eq_true rfl), (Nat.le_of_ble_eq_true rfl)⟩ rfl (fun u H locs hH => ?_)
                        rw [List.nil_append, List.append_nil] at hH
                        have hH : HH G A s (sW G q n nc t fl fd3 k3 wd wf3 wa2 cd cf) H locs := hH
                        refine lv_iload hx hb dL_checks_428 (lv_at hl 2 rfl) ?_
                        refine lv_icmp_lt (tgt := 461) hx hb dL_checks_430 (by decide) (fun c_430 => absurd c_430 (by rw [f2, f1]; exact nI_nlt f3 f4)) (fun c_430 => ?_)
                        refine lv_iload hx hb dL_checks_433 (lv_at hl 0 rfl) ?_
                        have j457 : ∀  (H : Heap) (locs : List Loc) (ls : Array Slot), HH G A s (sW G q n nc t fl fd3 k3 wd wf3 wa2 cd cf) H locs → lv_has ls 22 [(18, .int (ckC wa2 j n)), (17, .int 0), (16, .int fd), (15, .int 1), (13, .int td), (11, .long (allS n t fd wf wa)), (10, .int hh), (9, .int o), (8, .int w), (7, .int ps), (6, .int (nI j)), (5, .int (nI t)), (4, .int (nI n)), (1, .int x0), (0, .ref (q 0))] → W p l e ({ frames := 10, cells := 8, slots := 48, locals := 240 } : Room) s m [.ref (q 0), .int x0, .int z0, .int od].toArray below meth c H locs (6) (36) (EnP G A below s [.ref (q 0), .int x0, .int z0, .int od].toArray ({ frames := 10, cells := 8, slots := 48, locals := 240 } : Room) (PSI G q nc fl)) (F0 m 457 ls []) := by
                          intro  H locs ls hH hl
                          refine lv_iconst (v := 1) hx hb dL_checks_457 (by decide) ?_
                          refine lv_goto (tgt := 462) hx hb dL_checks_458 (by decide) ?_
                          refine lv_istore (lv' := [(15, .int 1), (18, .int (ckC wa2 j n)), (17, .int 0), (16, .int fd), (13, .int td), (11, .long (allS n t fd wf wa)), (10, .int hh), (9, .int o), (8, .int w), (7, .int ps), (6, .int (nI j)), (5, .int (nI t)), (4, .int (nI n)), (1, .int x0), (0, .ref (q 0))]) hx hb dL_checks_462 hl (by decide) rfl (fun ls hl => ?_)
                          refine lv_iload hx hb dL_checks_464 (lv_at hl 7 rfl) ?_
                          refine lv_if_ne (tgt := 593) hx hb dL_checks_466 (by decide) (fun c_466 => ?_) (fun c_466 => absurd c_466 (by rw [ho]; decide))
                          refine lv_iload hx hb dL_checks_593 (lv_at hl 0 rfl) ?_
                          exact retP F hr rfl hH (PSI_mk hI3) (Nat.le_of_ble_eq_true rfl) (Nat.le_of_ble_eq_true rfl) dL_checks_595
                        refine lv_if_gt (tgt := 457) hx hb dL_checks_435 (by decide) (fun c_435 => ?_) (fun c_435 => ?_)
                        · refine W.widen (k := 6) (n := 36) (Nat.le_of_ble_eq_true rfl) (Nat.le_of_ble_eq_true rfl) ?_
                          exact j457  _ _ _ hH (lv_sub hl [0, 1, 2, 3, 4, 5, 6, 7, 8, 9, 10, 11, 12, 13, 14] rfl)
                        · have g0 : cn = 0 := by
                            rcases Nat.eq_zero_or_pos cn with h9 | h9
                            · exact h9
                            · exact absurd (by rw [g2]; exact nI_lt (a := 0) h9 (by omega)) c_435
                          obtain ⟨g5, g6⟩ := g3 g0
                          refine lv_aload_n hx hb dL_checks_438 rfl (lv_at hl 14 rfl) ?_
                          refine callSL (rest := []) F (c_all l G q n nc t fl fd3 k3 wd wf3 wa2 cd cf hn) gL_checks_L_all rfl hdL_all ⟨Nat.le_of_ble_eq_true rfl, Nat.le_of_ble_eq_true rfl⟩ ([] : va_W) ([] : va_W) hH (by simp only [List.nil_append, List.append_nil]) rfl hl.1 (Nat.le_of_ble_eq_true rfl) dL_checks_439 ⟨(Nat.le_of_ble_eq_true rfl), (Nat.le_of_ble_eq_true rfl)⟩ rfl (fun H locs hH => ?_)
                          refine lv_lload hx hb dL_checks_442 (lv_at hl 5 rfl) ?_
                          refine W.lcmp hx hb dL_checks_444 ?_
                          refine lv_if_ne (tgt := 461) hx hb dL_checks_445 (by decide) (fun c_445 => absurd (by rw [g5, g6, hall]; exact lg_self _) c_445) (fun c_445 => ?_)
                          refine lv_aload_n hx hb dL_checks_448 rfl (lv_at hl 14 rfl) ?_
                          refine callVI (rest := []) F (c_X2_firmOwes l G q n nc t fl fd3 k3 wd wf3 wa2 cd cf) gL_checks_X2_firmOwes rfl hdX2_firmOwes ⟨Nat.le_of_ble_eq_true rfl, Nat.le_of_ble_eq_true rfl⟩ ([] : va_W) ([] : va_W) hH (by simp only [List.nil_append, List.append_nil]) ⟨0, 2, _, _, rfl, rfl, rfl⟩ rfl hl.1 (Nat.le_of_ble_eq_true rfl) dL_checks_449 ⟨(Nat.le_of_ble_eq_true rfl), (Nat.le_of_ble_eq_true rfl)⟩ rfl (fun u H locs hH => ?_)
                          rw [List.nil_append, List.append_nil] at hH
                          have hH : HH G A s (sW G q n nc t fl fd3 k3 wd wf3 wa2 cd cf) H locs := hH
                          refine lv_iload hx hb dL_checks_452 (lv_at hl 2 rfl) ?_
                          refine lv_icmp_ne (tgt := 461) hx hb dL_checks_454 (by decide) (fun c_454 => absurd g6 c_454) (fun c_454 => ?_)
                          refine W.widen (k := 6) (n := 36) (Nat.le_of_ble_eq_true rfl) (Nat.le_of_ble_eq_true rfl) ?_
                          exact j457  _ _ _ hH (lv_sub hl [0, 1, 2, 3, 4, 5, 6, 7, 8, 9, 10, 11, 12, 13, 14] rfl)
                      · refine lv_iconst (v := 0) hx hb dL_checks_333 (by decide) ?_
                        refine lv_goto (tgt := 343) hx hb dL_checks_334 (by decide) ?_
                        refine lv_istore (lv' := [(17, .int 0), (16, .int fd), (15, .int 1), (13, .int td), (11, .long (allS n t fd wf wa)), (10, .int hh), (9, .int o), (8, .int w), (7, .int ps), (6, .int (nI j)), (5, .int (nI t)), (4, .int (nI n)), (1, .int x0), (0, .ref (q 0))]) hx hb dL_checks_343 hl (by decide) rfl (fun ls hl => ?_)
                        refine lv_aload_n hx hb dL_checks_345 rfl (lv_at hl 13 rfl) ?_
                        refine lv_bipush (v := 13) hx hb dL_checks_346 (by decide) ?_
                        refine lv_iload hx hb dL_checks_348 (lv_at hl 9 rfl) ?_
                        refine lv_iconst (v := 0) hx hb dL_checks_350 (by decide) ?_
                        refine lv_iconst (v := 0) hx hb dL_checks_351 (by decide) ?_
                        refine lv_iconst (v := 0) hx hb dL_checks_352 (by decide) ?_
                        refine callLI (rest := []) F (k_check_3 l hst G q n nc t fl fd k wd wf wa2 cd cf ht j hj hk 0 0 0) gL_checks_L_call rfl hdL_call ⟨Nat.le_of_ble_eq_true rfl, Nat.le_of_ble_eq_true rfl⟩ ([] : va_W) ([] : va_W) hH (by simp only [List.nil_append, List.append_nil]) rfl hl.1 (Nat.le_of_ble_eq_true rfl) dL_checks_353 ⟨(Nat.le_of_ble_eq_true rfl), (Nat.le_of_ble_eq_true rfl)⟩ rfl (fun u H locs hH => ?_)
                        rw [List.nil_append, List.append_nil] at hH
                        have hH : HH G A s (sW G q n nc t fl fd k wd wf wa2 cd cf) H locs := hH
                        refine lv_istore (lv' := [(18, .int (-63)), (17, .int 0), (16, .int fd), (15, .int 1), (13, .int td), (11, .long (allS n t fd wf wa)), (10, .int hh), (9, .int o), (8, .int w), (7, .int ps), (6, .int (nI j)), (5, .int (nI t)), (4, .int (nI n)), (1, .int x0), (0, .ref (q 0))]) hx hb dL_checks_356 hl (by decide) rfl (fun ls hl => ?_)
                        refine lv_iload hx hb dL_checks_358 (lv_at hl 0 rfl) ?_
                        refine lv_if_ge (tgt := 396) hx hb dL_checks_360 (by decide) (fun c_360 => absurd c_360 (by decide)) (fun c_360 => ?_)
                        refine lv_aload_n hx hb dL_checks_363 rfl (lv_at hl 14 rfl) ?_
                        refine callSL (rest := []) F (c_all l G q n nc t fl fd k wd wf wa2 cd cf hn) gL_checks_L_all rfl hdL_all ⟨Nat.le_of_ble_eq_true rfl, Nat.le_of_ble_eq_true rfl⟩ ([] : va_W) ([] : va_W) hH (by simp only [List.nil_append, List.append_nil]) rfl hl.1 (Nat.le_of_ble_eq_true rfl) dL_checks_364 ⟨(Nat.le_of_ble_eq_true rfl), (Nat.le_of_ble_eq_true rfl)⟩ rfl (fun H locs hH => ?_)
                        refine lv_lload hx hb dL_checks_367 (lv_at hl 5 rfl) ?_
                        refine W.lcmp hx hb dL_checks_369 ?_
                        refine lv_if_ne (tgt := 394) hx hb dL_checks_370 (by decide) (fun c_370 => absurd (by rw [hall]; exact lg_self _) c_370) (fun c_370 => ?_)
                        refine lv_iload hx hb dL_checks_373 (lv_at hl 0 rfl) ?_
                        refine lv_iload hx hb dL_checks_375 (lv_at hl 9 rfl) ?_
                        refine lv_if_eq (tgt := 385) hx hb dL_checks_377 (by decide) (fun c_377 => absurd c_377 (by rw [hps]; decide)) (fun c_377 => ?_)
                        refine lv_bipush (v := (-63)) hx hb dL_checks_380 (by decide) ?_
                        refine lv_goto (tgt := 387) hx hb dL_checks_382 (by decide) ?_
                        refine lv_icmp_ne (tgt := 394) hx hb dL_checks_387 (by decide) (fun c_387 => absurd rfl c_387) (fun c_387 => ?_)
                        refine lv_iconst (v := 1) hx hb dL_checks_390 (by decide) ?_
                        refine lv_goto (tgt := 395) hx hb dL_checks_391 (by decide) ?_
                        exact retP F hr rfl hH (PSI_mk hI2) (Nat.le_of_ble_eq_true rfl) (Nat.le_of_ble_eq_true rfl) dL_checks_395
                  · subst hw
                    refine lv_istore (lv' := [(16, .int fd), (15, .int 1), (13, .int td), (11, .long (allS n t fd wf wa)), (10, .int hh), (9, .int o), (8, .int (nI i)), (7, .int ps), (6, .int wk), (5, .int (nI t)), (4, .int (nI n)), (1, .int x0), (0, .ref (q 0))]) hx hb dL_checks_326 hl (by decide) rfl (fun ls hl => ?_)
                    refine lv_iload hx hb dL_checks_328 (lv_at hl 5 rfl) ?_
                    refine lv_if_eq (tgt := 337) hx hb dL_checks_330 (by decide) (fun c_330 => ?_) (fun c_330 => absurd ho c_330)
                    refine lv_aload_n hx hb dL_checks_337 rfl (lv_at hl 12 rfl) ?_
                    refine lv_iload hx hb dL_checks_338 (lv_at hl 6 rfl) ?_
                    refine callVI (rest := []) F (c_X2_owes_1 l G q n nc t fl fd k wd wf wa2 cd cf hn i hi) gL_checks_X2_owes rfl hdX2_owes ⟨Nat.le_of_ble_eq_true rfl, Nat.le_of_ble_eq_true rfl⟩ ([] : va_W) ([] : va_W) hH (by simp only [List.nil_append, List.append_nil]) ⟨0, 2, _, _, rfl, rfl, rfl⟩ rfl hl.1 (Nat.le_of_ble_eq_true rfl) dL_checks_340 ⟨(Nat.le_of_ble_eq_true rfl), (Nat.le_of_ble_eq_true rfl)⟩ rfl (fun u H locs hH => ?_)
                    rw [List.nil_append, List.append_nil] at hH
                    have hH : HH G A s (sW G q n nc t fl fd k wd wf wa2 cd cf) H locs := hH
                    rcases hps with ⟨hps, hwk⟩ | ⟨hps, j, hj, hwk⟩
                    · refine lv_istore (lv' := [(17, .int (wf i 11)), (16, .int fd), (15, .int 1), (13, .int td), (11, .long (allS n t fd wf wa)), (10, .int hh), (9, .int o), (8, .int (nI i)), (7, .int ps), (6, .int wk), (5, .int (nI t)), (4, .int (nI n)), (1, .int x0), (0, .ref (q 0))]) hx hb dL_checks_343 hl (by decide) rfl (fun ls hl => ?_)
                      refine lv_aload_n hx hb dL_checks_345 rfl (lv_at hl 13 rfl) ?_
                      refine lv_bipush (v := 13) hx hb dL_checks_346 (by decide) ?_
                      refine lv_iload hx hb dL_checks_348 (lv_at hl 9 rfl) ?_
                      refine lv_iconst (v := 0) hx hb dL_checks_350 (by decide) ?_
                      refine lv_iconst (v := 0) hx hb dL_checks_351 (by decide) ?_
                      refine lv_iconst (v := 0) hx hb dL_checks_352 (by decide) ?_
                      refine callLI (rest := []) F (k_check_2 l hst G q n nc t fl fd k wd wf wa2 cd cf ht wk hwk 0 0 0) gL_checks_L_call rfl hdL_call ⟨Nat.le_of_ble_eq_true rfl, Nat.le_of_ble_eq_true rfl⟩ ([] : va_W) ([] : va_W) hH (by simp only [List.nil_append, List.append_nil]) rfl hl.1 (Nat.le_of_ble_eq_true rfl) dL_checks_353 ⟨(Nat.le_of_ble_eq_true rfl), (Nat.le_of_ble_eq_true rfl)⟩ rfl (fun u H locs hH => ?_)
                      rw [List.nil_append, List.append_nil] at hH
                      have hH : HH G A s (sW G q n nc t fl fd k wd wf wa2 cd cf) H locs := hH
                      refine lv_istore (lv' := [(18, .int (-62)), (17, .int (wf i 11)), (16, .int fd), (15, .int 1), (13, .int td), (11, .long (allS n t fd wf wa)), (10, .int hh), (9, .int o), (8, .int (nI i)), (7, .int ps), (6, .int wk), (5, .int (nI t)), (4, .int (nI n)), (1, .int x0), (0, .ref (q 0))]) hx hb dL_checks_356 hl (by decide) rfl (fun ls hl => ?_)
                      refine lv_iload hx hb dL_checks_358 (lv_at hl 0 rfl) ?_
                      refine lv_if_ge (tgt := 396) hx hb dL_checks_360 (by decide) (fun c_360 => absurd c_360 (by decide)) (fun c_360 => ?_)
                      refine lv_aload_n hx hb dL_checks_363 rfl (lv_at hl 14 rfl) ?_
                      refine callSL (rest := []) F (c_all l G q n nc t fl fd k wd wf wa2 cd cf hn) gL_checks_L_all rfl hdL_all ⟨Nat.le_of_ble_eq_true rfl, Nat.le_of_ble_eq_true rfl⟩ ([] : va_W) ([] : va_W) hH (by simp only [List.nil_append, List.append_nil]) rfl hl.1 (Nat.le_of_ble_eq_true rfl) dL_checks_364 ⟨(Nat.le_of_ble_eq_true rfl), (Nat.le_of_ble_eq_true rfl)⟩ rfl (fun H locs hH => ?_)
                      refine lv_lload hx hb dL_checks_367 (lv_at hl 5 rfl) ?_
                      refine W.lcmp hx hb dL_checks_369 ?_
                      refine lv_if_ne (tgt := 394) hx hb dL_checks_370 (by decide) (fun c_370 => absurd (by rw [hall]; exact lg_self _) c_370) (fun c_370 => ?_)
                      refine lv_iload hx hb dL_checks_373 (lv_at hl 0 rfl) ?_
                      refine lv_iload hx hb dL_checks_375 (lv_at hl 9 rfl) ?_
                      refine lv_if_eq (tgt := 385) hx hb dL_checks_377 (by decide) (fun c_377 => ?_) (fun c_377 => absurd hps c_377)
                      refine lv_bipush (v := (-62)) hx hb dL_checks_385 (by decide) ?_
                      refine lv_icmp_ne (tgt := 394) hx hb dL_checks_387 (by decide) (fun c_387 => absurd rfl c_387) (fun c_387 => ?_)
                      refine lv_iconst (v := 1) hx hb dL_checks_390 (by decide) ?_
                      refine lv_goto (tgt := 395) hx hb dL_checks_391 (by decide) ?_
                      exact retP F hr rfl hH (PSI_mk hI2) (Nat.le_of_ble_eq_true rfl) (Nat.le_of_ble_eq_true rfl) dL_checks_395
                    · subst hwk
                      by_cases hk : k j = 0
                      · refine lv_istore (lv' := [(17, .int (wf i 11)), (16, .int fd), (15, .int 1), (13, .int td), (11, .long (allS n t fd wf wa)), (10, .int hh), (9, .int o), (8, .int (nI i)), (7, .int ps), (6, .int (nI j)), (5, .int (nI t)), (4, .int (nI n)), (1, .int x0), (0, .ref (q 0))]) hx hb dL_checks_343 hl (by decide) rfl (fun ls hl => ?_)
                        refine lv_aload_n hx hb dL_checks_345 rfl (lv_at hl 13 rfl) ?_
                        refine lv_bipush (v := 13) hx hb dL_checks_346 (by decide) ?_
                        refine lv_iload hx hb dL_checks_348 (lv_at hl 9 rfl) ?_
                        refine lv_iconst (v := 0) hx hb dL_checks_350 (by decide) ?_
                        refine lv_iconst (v := 0) hx hb dL_checks_351 (by decide) ?_
                        refine lv_iconst (v := 0) hx hb dL_checks_352 (by decide) ?_
                        refine callLI (rest := []) F (k_check_1 l G q n nc t fl fd k wd wf wa2 cd cf hn ht j hj hk 0 0 0) gL_checks_L_call rfl hdL_call ⟨Nat.le_of_ble_eq_true rfl, Nat.le_of_ble_eq_true rfl⟩ ([] : va_W) ([] : va_W) hH (by simp only [List.nil_append, List.append_nil]) rfl hl.1 (Nat.le_of_ble_eq_true rfl) dL_checks_353 ⟨(Nat.le_of_ble_eq_true rfl), (Nat.le_of_ble_eq_true rfl)⟩ rfl (fun u H locs hH => ?_)
                        rw [List.nil_append, List.append_nil] at hH
                        have hH : HH G A s (sW G q n nc t fl (ckD wa2 j fd n) (upd k j 1) wd (ckF wf wa2 j n) wa2 cd cf) H locs := hH
                        obtain ⟨hI3, D, D2, f1, f2, f3, f4⟩ := IN_check hI2 hj hk
                        obtain ⟨cn, g1, g2, g3, g4⟩ := ckC_nat wf wa2 j fd n
                        have h11 : ∀ i, ckF wf wa2 j n i 11 = wf i 11 ∨ ckF wf wa2 j n i 11 = wf i 11 + wa2 i 5 j / 2 := fun i => ckF_11 n
                        obtain ⟨fd3, hfd3⟩ : ∃ x, x = ckD wa2 j fd n := ⟨_, rfl⟩
                        obtain ⟨wf3, hwf3⟩ : ∃ x, x = ckF wf wa2 j n := ⟨_, rfl⟩
                        obtain ⟨k3, hk3⟩ : ∃ x, x = upd k j 1 := ⟨_, rfl⟩
                        have hkj : ¬ k3 j = 0 := by rw [hk3, pk_us]; decide
                        rw [← hfd3, ← hwf3, ← hk3] at hH hI3
                        rw [← hfd3] at f2
                        rw [← hwf3, ← hfd3] at g3
                        rw [← hwf3] at h11
                        clear hfd3 hwf3 hk3
                        refine lv_istore (lv' := [(18, .int (ckC wa2 j n)), (17, .int (wf i 11)), (16, .int fd), (15, .int 1), (13, .int td), (11, .long (allS n t fd wf wa)), (10, .int hh), (9, .int o), (8, .int (nI i)), (7, .int ps), (6, .int (nI j)), (5, .int (nI t)), (4, .int (nI n)), (1, .int x0), (0, .ref (q 0))]) hx hb dL_checks_356 hl (by decide) rfl (fun ls hl => ?_)
                        refine lv_iload hx hb dL_checks_358 (lv_at hl 0 rfl) ?_
                        refine lv_if_ge (tgt := 396) hx hb dL_checks_360 (by decide) (fun c_360 => ?_) (fun c_360 => absurd (by rw [g2]; exact nI_0le (by omega)) c_360)
                        refine lv_iload hx hb dL_checks_396 (lv_at hl 9 rfl) ?_
                        refine lv_if_eq (tgt := 461) hx hb dL_checks_398 (by decide) (fun c_398 => absurd c_398 (by rw [hps]; decide)) (fun c_398 => ?_)
                        refine lv_iload hx hb dL_checks_401 (lv_at hl 0 rfl) ?_
                        refine lv_iload hx hb dL_checks_403 (lv_at hl 12 rfl) ?_
                        refine lv_icmp_gt (tgt := 461) hx hb dL_checks_405 (by decide) (fun c_405 => absurd c_405 (by rw [g2]; exact nI_nlt g1 (by omega))) (fun c_405 => ?_)
                        refine lv_aload_n hx hb dL_checks_408 rfl (lv_at hl 14 rfl) ?_
                        refine lv_bipush (v := 13) hx hb dL_checks_409 (by decide) ?_
                        refine lv_iload hx hb dL_checks_411 (lv_at hl 10 rfl) ?_
                        refine lv_iconst (v := 0) hx hb dL_checks_413 (by decide) ?_
                        refine lv_iconst (v := 0) hx hb dL_checks_414 (by decide) ?_
                        refine lv_iconst (v := 0) hx hb dL_checks_415 (by decide) ?_
                        refine callLI (rest := []) F (k_check_3 l hst G q n nc t fl fd3 k3 wd wf3 wa2 cd cf ht j hj hkj 0 0 0) gL_checks_L_call rfl hdL_call ⟨Nat.le_of_ble_eq_true rfl, Nat.le_of_ble_eq_true rfl⟩ ([] : va_W) ([] : va_W) hH (by simp only [List.nil_append, List.append_nil]) rfl hl.1 (Nat.le_of_ble_eq_true rfl) dL_checks_416 ⟨(Nat.le_of_ble_eq_true rfl), (Nat.le_of_ble_eq_true rfl)⟩ rfl (fun u H locs hH => ?_)
                        rw [List.nil_append, List.append_nil] at hH
                        have hH : HH G A s (sW G q n nc t fl fd3 k3 wd wf3 wa2 cd cf) H locs := hH
                        refine lv_bipush (v := (-63)) hx hb dL_checks_419 (by decide) ?_
                        refine lv_icmp_ne (tgt := 461) hx hb dL_checks_421 (by decide) (fun c_421 => absurd rfl c_421) (fun c_421 => ?_)
                        refine lv_aload_n hx hb dL_checks_424 rfl (lv_at hl 14 rfl) ?_
                        refine callVI (rest := []) F (c_X2_firmOwes l G q n nc t fl fd3 k3 wd wf3 wa2 cd cf) gL_checks_X2_firmOwes rfl hdX2_firmOwes ⟨Nat.le_of_ble_eq_true rfl, Nat.le_of_ble_eq_true rfl⟩ ([] : va_W) ([] : va_W) hH (by simp only [List.nil_append, List.append_nil]) ⟨0, 2, _, _, rfl, rfl, rfl⟩ rfl hl.1 (Nat.le_of_ble_eq_true rfl) dL_checks_425 ⟨(Nat.le_of_ble_eq_true rfl), (Nat.le_of_ble_eq_true rfl)⟩ rfl (fun u H locs hH => ?_)
                        rw [List.nil_append, List.append_nil] at hH
                        have hH : HH G A s (sW G q n nc t fl fd3 k3 wd wf3 wa2 cd cf) H locs := hH
                        refine lv_iload hx hb dL_checks_428 (lv_at hl 2 rfl) ?_
                        refine lv_icmp_lt (tgt := 461) hx hb dL_checks_430 (by decide) (fun c_430 => absurd c_430 (by rw [f2, f1]; exact nI_nlt f3 f4)) (fun c_430 => ?_)
                        refine lv_iload hx hb dL_checks_433 (lv_at hl 0 rfl) ?_
                        have j457 : ∀  (H : Heap) (locs : List Loc) (ls : Array Slot), HH G A s (sW G q n nc t fl fd3 k3 wd wf3 wa2 cd cf) H locs → lv_has ls 22 [(18, .int (ckC wa2 j n)), (17, .int (wf i 11)), (16, .int fd), (15, .int 1), (13, .int td), (11, .long (allS n t fd wf wa)), (10, .int hh), (9, .int o), (8, .int (nI i)), (7, .int ps), (6, .int (nI j)), (5, .int (nI t)), (4, .int (nI n)), (1, .int x0), (0, .ref (q 0))] → W p l e ({ frames := 10, cells := 8, slots := 48, locals := 240 } : Room) s m [.ref (q 0), .int x0, .int z0, .int od].toArray below meth c H locs (6) (36) (EnP G A below s [.ref (q 0), .int x0, .int z0, .int od].toArray ({ frames := 10, cells := 8, slots := 48, locals := 240 } : Room) (PSI G q nc fl)) (F0 m 457 ls []) := by
                          intro  H locs ls hH hl
                          refine lv_iconst (v := 1) hx hb dL_checks_457 (by decide) ?_
                          refine lv_goto (tgt := 462) hx hb dL_checks_458 (by decide) ?_
                          refine lv_istore (lv' := [(15, .int 1), (18, .int (ckC wa2 j n)), (17, .int (wf i 11)), (16, .int fd), (13, .int td), (11, .long (allS n t fd wf wa)), (10, .int hh), (9, .int o), (8, .int (nI i)), (7, .int ps), (6, .int (nI j)), (5, .int (nI t)), (4, .int (nI n)), (1, .int x0), (0, .ref (q 0))]) hx hb dL_checks_462 hl (by decide) rfl (fun ls hl => ?_)
                          refine lv_iload hx hb dL_checks_464 (lv_at hl 7 rfl) ?_
                          refine lv_if_ne (tgt := 593) hx hb dL_checks_466 (by decide) (fun c_466 => absurd ho c_466) (fun c_466 => ?_)
                          refine lv_aload_n hx hb dL_checks_469 rfl (lv_at hl 14 rfl) ?_
                          refine lv_iload hx hb dL_checks_470 (lv_at hl 8 rfl) ?_
                          refine lv_iload hx hb dL_checks_472 (lv_at hl 10 rfl) ?_
                          refine callVI (rest := []) F (c_X2_madeUp_1 l G q n nc t fl fd3 k3 wd wf3 wa2 cd cf hn i hi ht j hj) gL_checks_X2_madeUp rfl hdX2_madeUp ⟨Nat.le_of_ble_eq_true rfl, Nat.le_of_ble_eq_true rfl⟩ ([] : va_W) ([] : va_W) hH (by simp only [List.nil_append, List.append_nil]) ⟨0, 2, _, _, rfl, rfl, rfl⟩ rfl hl.1 (Nat.le_of_ble_eq_true rfl) dL_checks_474 ⟨(Nat.le_of_ble_eq_true rfl), (Nat.le_of_ble_eq_true rfl)⟩ rfl (fun u H locs hH => ?_)
                          rw [List.nil_append, List.append_nil] at hH
                          have hH : HH G A s (sW G q n nc t fl fd3 k3 wd wf3 wa2 cd cf) H locs := hH
                          refine lv_istore (lv' := [(19, .int (wa2 i 5 j)), (15, .int 1), (18, .int (ckC wa2 j n)), (17, .int (wf i 11)), (16, .int fd), (13, .int td), (11, .long (allS n t fd wf wa)), (10, .int hh), (9, .int o), (8, .int (nI i)), (7, .int ps), (6, .int (nI j)), (5, .int (nI t)), (4, .int (nI n)), (1, .int x0), (0, .ref (q 0))]) hx hb dL_checks_477 hl (by decide) rfl (fun ls hl => ?_)
                          refine lv_aload_n hx hb dL_checks_479 rfl (lv_at hl 15 rfl) ?_
                          refine lv_iload hx hb dL_checks_480 (lv_at hl 9 rfl) ?_
                          refine callVI (rest := []) F (c_X2_owes_1 l G q n nc t fl fd3 k3 wd wf3 wa2 cd cf hn i hi) gL_checks_X2_owes rfl hdX2_owes ⟨Nat.le_of_ble_eq_true rfl, Nat.le_of_ble_eq_true rfl⟩ ([] : va_W) ([] : va_W) hH (by simp only [List.nil_append, List.append_nil]) ⟨0, 2, _, _, rfl, rfl, rfl⟩ rfl hl.1 (Nat.le_of_ble_eq_true rfl) dL_checks_482 ⟨(Nat.le_of_ble_eq_true rfl), (Nat.le_of_ble_eq_true rfl)⟩ rfl (fun u H locs hH => ?_)
                          rw [List.nil_append, List.append_nil] at hH
                          have hH : HH G A s (sW G q n nc t fl fd3 k3 wd wf3 wa2 cd cf) H locs := hH
                          refine lv_iload hx hb dL_checks_485 (lv_at hl 3 rfl) ?_
                          refine lv_isub hx hb dL_checks_487 ?_
                          refine lv_istore (lv' := [(20, .int ((wf3 i 11) - (wf i 11))), (19, .int (wa2 i 5 j)), (15, .int 1), (18, .int (ckC wa2 j n)), (17, .int (wf i 11)), (16, .int fd), (13, .int td), (11, .long (allS n t fd wf wa)), (10, .int hh), (9, .int o), (8, .int (nI i)), (7, .int ps), (6, .int (nI j)), (5, .int (nI t)), (4, .int (nI n)), (1, .int x0), (0, .ref (q 0))]) hx hb dL_checks_488 hl (by decide) rfl (fun ls hl => ?_)
                          refine lv_iload hx hb dL_checks_490 (lv_at hl 6 rfl) ?_
                          have j521 : ∀ (du : Int32) (hdu : ¬ du = 0 → td = 0 ∧ ¬ hh ≤ 42 - wa2 i 2 j ∧ ¬ wa2 i 5 j ≤ 0) (H : Heap) (locs : List Loc) (ls : Array Slot), HH G A s (sW G q n nc t fl fd3 k3 wd wf3 wa2 cd cf) H locs → lv_has ls 22 [(20, .int ((wf3 i 11) - (wf i 11))), (19, .int (wa2 i 5 j)), (15, .int 1), (18, .int (ckC wa2 j n)), (17, .int (wf i 11)), (16, .int fd), (13, .int td), (11, .long (allS n t fd wf wa)), (10, .int hh), (9, .int o), (8, .int (nI i)), (7, .int ps), (6, .int (nI j)), (5, .int (nI t)), (4, .int (nI n)), (1, .int x0), (0, .ref (q 0))] → W p l e ({ frames := 10, cells := 8, slots := 48, locals := 240 } : Room) s m [.ref (q 0), .int x0, .int z0, .int od].toArray below meth c H locs (6 + 0 + 0) (36 + 0 + 0) (EnP G A below s [.ref (q 0), .int x0, .int z0, .int od].toArray ({ frames := 10, cells := 8, slots := 48, locals := 240 } : Room) (PSI G q nc fl)) (F0 m 521 ls [.int du]) := by
                            intro du hdu H locs ls hH hl
                            refine lv_istore (lv' := [(21, .int du), (20, .int ((wf3 i 11) - (wf i 11))), (19, .int (wa2 i 5 j)), (15, .int 1), (18, .int (ckC wa2 j n)), (17, .int (wf i 11)), (16, .int fd), (13, .int td), (11, .long (allS n t fd wf wa)), (10, .int hh), (9, .int o), (8, .int (nI i)), (7, .int ps), (6, .int (nI j)), (5, .int (nI t)), (4, .int (nI n)), (1, .int x0), (0, .ref (q 0))]) hx hb dL_checks_521 hl (by decide) rfl (fun ls hl => ?_)
                            refine lv_iload hx hb dL_checks_523 (lv_at hl 3 rfl) ?_
                            refine lv_if_eq (tgt := 590) hx hb dL_checks_525 (by decide) (fun c_525 => absurd c_525 (by decide)) (fun c_525 => ?_)
                            refine lv_iload hx hb dL_checks_528 (lv_at hl 1 rfl) ?_
                            have j542 : ∀  (H : Heap) (locs : List Loc) (ls : Array Slot), HH G A s (sW G q n nc t fl fd3 k3 wd wf3 wa2 cd cf) H locs → lv_has ls 22 [(21, .int du), (20, .int ((wf3 i 11) - (wf i 11))), (19, .int (wa2 i 5 j)), (15, .int 1), (18, .int (ckC wa2 j n)), (17, .int (wf i 11)), (16, .int fd), (13, .int td), (11, .long (allS n t fd wf wa)), (10, .int hh), (9, .int o), (8, .int (nI i)), (7, .int ps), (6, .int (nI j)), (5, .int (nI t)), (4, .int (nI n)), (1, .int x0), (0, .ref (q 0))] → W p l e ({ frames := 10, cells := 8, slots := 48, locals := 240 } : Room) s m [.ref (q 0), .int x0, .int z0, .int od].toArray below meth c H locs (6 + 0 + 0) (36 + 0 + 0) (EnP G A below s [.ref (q 0), .int x0, .int z0, .int od].toArray ({ frames := 10, cells := 8, slots := 48, locals := 240 } : Room) (PSI G q nc fl)) (F0 m 542 ls []) := by
                              intro  H locs ls hH hl
                              refine lv_iload hx hb dL_checks_542 (lv_at hl 0 rfl) ?_
                              have j552 : ∀  (H : Heap) (locs : List Loc) (ls : Array Slot), HH G A s (sW G q n nc t fl fd3 k3 wd wf3 wa2 cd cf) H locs → lv_has ls 22 [(21, .int du), (20, .int ((wf3 i 11) - (wf i 11))), (19, .int (wa2 i 5 j)), (15, .int 1), (18, .int (ckC wa2 j n)), (17, .int (wf i 11)), (16, .int fd), (13, .int td), (11, .long (allS n t fd wf wa)), (10, .int hh), (9, .int o), (8, .int (nI i)), (7, .int ps), (6, .int (nI j)), (5, .int (nI t)), (4, .int (nI n)), (1, .int x0), (0, .ref (q 0))] → W p l e ({ frames := 10, cells := 8, slots := 48, locals := 240 } : Room) s m [.ref (q 0), .int x0, .int z0, .int od].toArray below meth c H locs (6 + 0 + 0) (36 + 0 + 0) (EnP G A below s [.ref (q 0), .int x0, .int z0, .int od].toArray ({ frames := 10, cells := 8, slots := 48, locals := 240 } : Room) (PSI G q nc fl)) (F0 m 552 ls []) := by
                                intro  H locs ls hH hl
                                refine lv_aload_n hx hb dL_checks_552 rfl (lv_at hl 17 rfl) ?_
                                refine lv_bipush (v := 11) hx hb dL_checks_553 (by decide) ?_
                                refine lv_iload hx hb dL_checks_555 (lv_at hl 11 rfl) ?_
                                refine lv_iload hx hb dL_checks_557 (lv_at hl 13 rfl) ?_
                                refine lv_iconst (v := 5) hx hb dL_checks_559 (by decide) ?_
                                refine lv_iconst (v := 0) hx hb dL_checks_560 (by decide) ?_
                                refine callLI (rest := []) F (k_door_3 l hst G q n nc t fl fd3 k3 wd wf3 wa2 cd cf hn i hi ht j hj 5 (by decide) (by decide) hkj 0) gL_checks_L_call rfl hdL_call ⟨Nat.le_of_ble_eq_true rfl, Nat.le_of_ble_eq_true rfl⟩ ([] : va_W) ([] : va_W) hH (by simp only [List.nil_append, List.append_nil]) rfl hl.1 (Nat.le_of_ble_eq_true rfl) dL_checks_561 ⟨(Nat.le_of_ble_eq_true rfl), (Nat.le_of_ble_eq_true rfl)⟩ rfl (fun u H locs hH => ?_)
                                rw [List.nil_append, List.append_nil] at hH
                                have hH : HH G A s (sW G q n nc t fl fd3 k3 wd wf3 wa2 cd cf) H locs := hH
                                refine lv_bipush (v := (-63)) hx hb dL_checks_564 (by decide) ?_
                                refine lv_icmp_ne (tgt := 590) hx hb dL_checks_566 (by decide) (fun c_566 => absurd rfl c_566) (fun c_566 => ?_)
                                refine lv_aload_n hx hb dL_checks_569 rfl (lv_at hl 17 rfl) ?_
                                refine lv_bipush (v := 12) hx hb dL_checks_570 (by decide) ?_
                                refine lv_iload hx hb dL_checks_572 (lv_at hl 11 rfl) ?_
                                refine lv_iload hx hb dL_checks_574 (lv_at hl 13 rfl) ?_
                                refine lv_iconst (v := 0) hx hb dL_checks_576 (by decide) ?_
                                refine lv_iconst (v := 0) hx hb dL_checks_577 (by decide) ?_
                                refine callLI (rest := []) F (k_mail_3 l hst G q n nc t fl fd3 k3 wd wf3 wa2 cd cf hn i hi ht j hj hkj 0 0) gL_checks_L_call rfl hdL_call ⟨Nat.le_of_ble_eq_true rfl, Nat.le_of_ble_eq_true rfl⟩ ([] : va_W) ([] : va_W) hH (by simp only [List.nil_append, List.append_nil]) rfl hl.1 (Nat.le_of_ble_eq_true rfl) dL_checks_578 ⟨(Nat.le_of_ble_eq_true rfl), (Nat.le_of_ble_eq_true rfl)⟩ rfl (fun u H locs hH => ?_)
                                rw [List.nil_append, List.append_nil] at hH
                                have hH : HH G A s (sW G q n nc t fl fd3 k3 wd wf3 wa2 cd cf) H locs := hH
                                refine lv_bipush (v := (-63)) hx hb dL_checks_581 (by decide) ?_
                                refine lv_icmp_ne (tgt := 590) hx hb dL_checks_583 (by decide) (fun c_583 => absurd rfl c_583) (fun c_583 => ?_)
                                refine lv_iconst (v := 1) hx hb dL_checks_586 (by decide) ?_
                                refine lv_goto (tgt := 591) hx hb dL_checks_587 (by decide) ?_
                                refine lv_istore (lv' := [(15, .int 1), (21, .int du), (20, .int ((wf3 i 11) - (wf i 11))), (19, .int (wa2 i 5 j)), (18, .int (ckC wa2 j n)), (17, .int (wf i 11)), (16, .int fd), (13, .int td), (11, .long (allS n t fd wf wa)), (10, .int hh), (9, .int o), (8, .int (nI i)), (7, .int ps), (6, .int (nI j)), (5, .int (nI t)), (4, .int (nI n)), (1, .int x0), (0, .ref (q 0))]) hx hb dL_checks_591 hl (by decide) rfl (fun ls hl => ?_)
                                refine lv_iload hx hb dL_checks_593 (lv_at hl 0 rfl) ?_
                                exact retP F hr rfl hH (PSI_mk hI3) (Nat.le_of_ble_eq_true rfl) (Nat.le_of_ble_eq_true rfl) dL_checks_595
                              refine lv_if_eq (tgt := 552) hx hb dL_checks_544 (by decide) (fun c_544 => ?_) (fun c_544 => ?_)
                              · exact j552  _ _ _ hH (lv_sub hl [0, 1, 2, 3, 4, 5, 6, 7, 8, 9, 10, 11, 12, 13, 14, 15, 16, 17] rfl)
                              · have hdx : ∃ i9, i9 < n ∧ ¬ ckB wa2 j i9 = 0 := by
                                  obtain ⟨k1, k2, k4⟩ := hdu c_544
                                  obtain ⟨i9, j9, q1, q2, q3, q4, q5⟩ := h6 k1 ho
                                  have q6 : i = i9 := (nI_eq (by omega) (by omega)).mp q3
                                  have q7 : j = j9 := (nI_eq (by omega) (by omega)).mp q4
                                  rw [← q6, ← q7] at q5
                                  obtain ⟨a9, q8, q9⟩ := (hI2.2.2.2.2.1 i hi).2.2.2.2.1 j (by omega)
                                  refine ⟨i, hi, ?_⟩
                                  unfold ckB
                                  rw [q5]
                                  exact much_due q8 q9 k2 k4
                                refine lv_iload hx hb dL_checks_547 (lv_at hl 4 rfl) ?_
                                refine lv_if_le (tgt := 590) hx hb dL_checks_549 (by decide) (fun c_549 => absurd c_549 (by rw [g2]; exact nI_npos (g4 hdx) (by omega))) (fun c_549 => ?_)
                                exact j552  _ _ _ hH (lv_sub hl [0, 1, 2, 3, 4, 5, 6, 7, 8, 9, 10, 11, 12, 13, 14, 15, 16, 17] rfl)
                            refine lv_if_eq (tgt := 542) hx hb dL_checks_530 (by decide) (fun c_530 => ?_) (fun c_530 => ?_)
                            · exact j542  _ _ _ hH (lv_sub hl [0, 1, 2, 3, 4, 5, 6, 7, 8, 9, 10, 11, 12, 13, 14, 15, 16, 17] rfl)
                            · refine lv_iload hx hb dL_checks_533 (lv_at hl 1 rfl) ?_
                              refine lv_iload hx hb dL_checks_535 (lv_at hl 2 rfl) ?_
                              refine lv_iconst (v := 2) hx hb dL_checks_537 (by decide) ?_
                              refine lv_idiv hx hb dL_checks_538 (by decide) ?_
                              refine lv_icmp_ne (tgt := 590) hx hb dL_checks_539 (by decide) (fun c_539 => absurd (dif_half (h11 i) c_530) c_539) (fun c_539 => ?_)
                              exact j542  _ _ _ hH (lv_sub hl [0, 1, 2, 3, 4, 5, 6, 7, 8, 9, 10, 11, 12, 13, 14, 15, 16, 17] rfl)
                          refine lv_if_ne (tgt := 520) hx hb dL_checks_492 (by decide) (fun c_492 => ?_) (fun c_492 => ?_)
                          · refine lv_iconst (v := 0) hx hb dL_checks_520 (by decide) ?_
                            exact j521 0 (fun h9 => absurd rfl h9) _ _ _ hH (lv_sub hl [0, 1, 2, 3, 4, 5, 6, 7, 8, 9, 10, 11, 12, 13, 14, 15, 16] rfl)
                          · refine lv_iload hx hb dL_checks_495 (lv_at hl 8 rfl) ?_
                            refine lv_bipush (v := 42) hx hb dL_checks_497 (by decide) ?_
                            refine lv_aload_n hx hb dL_checks_499 rfl (lv_at hl 16 rfl) ?_
                            refine lv_iload hx hb dL_checks_500 (lv_at hl 10 rfl) ?_
                            refine lv_iload hx hb dL_checks_502 (lv_at hl 12 rfl) ?_
                            refine callVI (rest := [.int 42, .int hh]) F (c_X2_cut_1 l G q n nc t fl fd3 k3 wd wf3 wa2 cd cf hn i hi j (by omega)) gL_checks_X2_cut rfl hdX2_cut ⟨Nat.le_of_ble_eq_true rfl, Nat.le_of_ble_eq_true rfl⟩ ([] : va_W) ([] : va_W) hH (by simp only [List.nil_append, List.append_nil]) ⟨0, 2, _, _, rfl, rfl, rfl⟩ rfl hl.1 (Nat.le_of_ble_eq_true rfl) dL_checks_504 ⟨(Nat.le_of_ble_eq_true rfl), (Nat.le_of_ble_eq_true rfl)⟩ rfl (fun u H locs hH => ?_)
                            rw [List.nil_append, List.append_nil] at hH
                            have hH : HH G A s (sW G q n nc t fl fd3 k3 wd wf3 wa2 cd cf) H locs := hH
                            refine lv_isub hx hb dL_checks_507 ?_
                            refine lv_icmp_le (tgt := 520) hx hb dL_checks_508 (by decide) (fun c_508 => ?_) (fun c_508 => ?_)
                            · refine lv_iconst (v := 0) hx hb dL_checks_520 (by decide) ?_
                              refine W.widen (k := 6 + 0 + 0) (n := 36 + 0 + 0) (Nat.le_of_ble_eq_true rfl) (Nat.le_of_ble_eq_true rfl) ?_
                              exact j521 0 (fun h9 => absurd rfl h9) _ _ _ hH (lv_sub hl [0, 1, 2, 3, 4, 5, 6, 7, 8, 9, 10, 11, 12, 13, 14, 15, 16] rfl)
                            · refine lv_iload hx hb dL_checks_511 (lv_at hl 1 rfl) ?_
                              refine lv_if_le (tgt := 520) hx hb dL_checks_513 (by decide) (fun c_513 => ?_) (fun c_513 => ?_)
                              · refine lv_iconst (v := 0) hx hb dL_checks_520 (by decide) ?_
                                refine W.widen (k := 6 + 0 + 0) (n := 36 + 0 + 0) (Nat.le_of_ble_eq_true rfl) (Nat.le_of_ble_eq_true rfl) ?_
                                exact j521 0 (fun h9 => absurd rfl h9) _ _ _ hH (lv_sub hl [0, 1, 2, 3, 4, 5, 6, 7, 8, 9, 10, 11, 12, 13, 14, 15, 16] rfl)
                              · refine lv_iconst (v := 1) hx hb dL_checks_516 (by decide) ?_
                                refine lv_goto (tgt := 521) hx hb dL_checks_517 (by decide) ?_
                                refine W.widen (k := 6 + 0 + 0) (n := 36 + 0 + 0) (Nat.le_of_ble_eq_true rfl) (Nat.le_of_ble_eq_true rfl) ?_
                                exact j521 1 (fun _ => ⟨c_492, c_508, c_513⟩) _ _ _ hH (lv_sub hl [0, 1, 2, 3, 4, 5, 6, 7, 8, 9, 10, 11, 12, 13, 14, 15, 16] rfl)
                        refine lv_if_gt (tgt := 457) hx hb dL_checks_435 (by decide) (fun c_435 => ?_) (fun c_435 => ?_)
                        · refine W.widen (k := 6) (n := 36) (Nat.le_of_ble_eq_true rfl) (Nat.le_of_ble_eq_true rfl) ?_
                          exact j457  _ _ _ hH (lv_sub hl [0, 1, 2, 3, 4, 5, 6, 7, 8, 9, 10, 11, 12, 13, 14] rfl)
                        · have g0 : cn = 0 := by
                            rcases Nat.eq_zero_or_pos cn with h9 | h9
                            · exact h9
                            · exact absurd (by rw [g2]; exact nI_lt (a := 0) h9 (by omega)) c_435
                          obtain ⟨g5, g6⟩ := g3 g0
                          refine lv_aload_n hx hb dL_checks_438 rfl (lv_at hl 14 rfl) ?_
                          refine callSL (rest := []) F (c_all l G q n nc t fl fd3 k3 wd wf3 wa2 cd cf hn) gL_checks_L_all rfl hdL_all ⟨Nat.le_of_ble_eq_true rfl, Nat.le_of_ble_eq_true rfl⟩ ([] : va_W) ([] : va_W) hH (by simp only [List.nil_append, List.append_nil]) rfl hl.1 (Nat.le_of_ble_eq_true rfl) dL_checks_439 ⟨(Nat.le_of_ble_eq_true rfl), (Nat.le_of_ble_eq_true rfl)⟩ rfl (fun H locs hH => ?_)
                          refine lv_lload hx hb dL_checks_442 (lv_at hl 5 rfl) ?_
                          refine W.lcmp hx hb dL_checks_444 ?_
                          refine lv_if_ne (tgt := 461) hx hb dL_checks_445 (by decide) (fun c_445 => absurd (by rw [g5, g6, hall]; exact lg_self _) c_445) (fun c_445 => ?_)
                          refine lv_aload_n hx hb dL_checks_448 rfl (lv_at hl 14 rfl) ?_
                          refine callVI (rest := []) F (c_X2_firmOwes l G q n nc t fl fd3 k3 wd wf3 wa2 cd cf) gL_checks_X2_firmOwes rfl hdX2_firmOwes ⟨Nat.le_of_ble_eq_true rfl, Nat.le_of_ble_eq_true rfl⟩ ([] : va_W) ([] : va_W) hH (by simp only [List.nil_append, List.append_nil]) ⟨0, 2, _, _, rfl, rfl, rfl⟩ rfl hl.1 (Nat.le_of_ble_eq_true rfl) dL_checks_449 ⟨(Nat.le_of_ble_eq_true rfl), (Nat.le_of_ble_eq_true rfl)⟩ rfl (fun u H locs hH => ?_)
                          rw [List.nil_append, List.append_nil] at hH
                          have hH : HH G A s (sW G q n nc t fl fd3 k3 wd wf3 wa2 cd cf) H locs := hH
                          refine lv_iload hx hb dL_checks_452 (lv_at hl 2 rfl) ?_
                          refine lv_icmp_ne (tgt := 461) hx hb dL_checks_454 (by decide) (fun c_454 => absurd g6 c_454) (fun c_454 => ?_)
                          refine W.widen (k := 6) (n := 36) (Nat.le_of_ble_eq_true rfl) (Nat.le_of_ble_eq_true rfl) ?_
                          exact j457  _ _ _ hH (lv_sub hl [0, 1, 2, 3, 4, 5, 6, 7, 8, 9, 10, 11, 12, 13, 14] rfl)
                      · refine lv_istore (lv' := [(17, .int (wf i 11)), (16, .int fd), (15, .int 1), (13, .int td), (11, .long (allS n t fd wf wa)), (10, .int hh), (9, .int o), (8, .int (nI i)), (7, .int ps), (6, .int (nI j)), (5, .int (nI t)), (4, .int (nI n)), (1, .int x0), (0, .ref (q 0))]) hx hb dL_checks_343 hl (by decide) rfl (fun ls hl => ?_)
                        refine lv_aload_n hx hb dL_checks_345 rfl (lv_at hl 13 rfl) ?_
                        refine lv_bipush (v := 13) hx hb dL_checks_346 (by decide) ?_
                        refine lv_iload hx hb dL_checks_348 (lv_at hl 9 rfl) ?_
                        refine lv_iconst (v := 0) hx hb dL_checks_350 (by decide) ?_
                        refine lv_iconst (v := 0) hx hb dL_checks_351 (by decide) ?_
                        refine lv_iconst (v := 0) hx hb dL_checks_352 (by decide) ?_
                        refine callLI (rest := []) F (k_check_3 l hst G q n nc t fl fd k wd wf wa2 cd cf ht j hj hk 0 0 0) gL_checks_L_call rfl hdL_call ⟨Nat.le_of_ble_eq_true rfl, Nat.le_of_ble_eq_true rfl⟩ ([] : va_W) ([] : va_W) hH (by simp only [List.nil_append, List.append_nil]) rfl hl.1 (Nat.le_of_ble_eq_true rfl) dL_checks_353 ⟨(Nat.le_of_ble_eq_true rfl), (Nat.le_of_ble_eq_true rfl)⟩ rfl (fun u H locs hH => ?_)
                        rw [List.nil_append, List.append_nil] at hH
                        have hH : HH G A s (sW G q n nc t fl fd k wd wf wa2 cd cf) H locs := hH
                        refine lv_istore (lv' := [(18, .int (-63)), (17, .int (wf i 11)), (16, .int fd), (15, .int 1), (13, .int td), (11, .long (allS n t fd wf wa)), (10, .int hh), (9, .int o), (8, .int (nI i)), (7, .int ps), (6, .int (nI j)), (5, .int (nI t)), (4, .int (nI n)), (1, .int x0), (0, .ref (q 0))]) hx hb dL_checks_356 hl (by decide) rfl (fun ls hl => ?_)
                        refine lv_iload hx hb dL_checks_358 (lv_at hl 0 rfl) ?_
                        refine lv_if_ge (tgt := 396) hx hb dL_checks_360 (by decide) (fun c_360 => absurd c_360 (by decide)) (fun c_360 => ?_)
                        refine lv_aload_n hx hb dL_checks_363 rfl (lv_at hl 14 rfl) ?_
                        refine callSL (rest := []) F (c_all l G q n nc t fl fd k wd wf wa2 cd cf hn) gL_checks_L_all rfl hdL_all ⟨Nat.le_of_ble_eq_true rfl, Nat.le_of_ble_eq_true rfl⟩ ([] : va_W) ([] : va_W) hH (by simp only [List.nil_append, List.append_nil]) rfl hl.1 (Nat.le_of_ble_eq_true rfl) dL_checks_364 ⟨(Nat.le_of_ble_eq_true rfl), (Nat.le_of_ble_eq_true rfl)⟩ rfl (fun H locs hH => ?_)
                        refine lv_lload hx hb dL_checks_367 (lv_at hl 5 rfl) ?_
                        refine W.lcmp hx hb dL_checks_369 ?_
                        refine lv_if_ne (tgt := 394) hx hb dL_checks_370 (by decide) (fun c_370 => absurd (by rw [hall]; exact lg_self _) c_370) (fun c_370 => ?_)
                        refine lv_iload hx hb dL_checks_373 (lv_at hl 0 rfl) ?_
                        refine lv_iload hx hb dL_checks_375 (lv_at hl 9 rfl) ?_
                        refine lv_if_eq (tgt := 385) hx hb dL_checks_377 (by decide) (fun c_377 => absurd c_377 (by rw [hps]; decide)) (fun c_377 => ?_)
                        refine lv_bipush (v := (-63)) hx hb dL_checks_380 (by decide) ?_
                        refine lv_goto (tgt := 387) hx hb dL_checks_382 (by decide) ?_
                        refine lv_icmp_ne (tgt := 394) hx hb dL_checks_387 (by decide) (fun c_387 => absurd rfl c_387) (fun c_387 => ?_)
                        refine lv_iconst (v := 1) hx hb dL_checks_390 (by decide) ?_
                        refine lv_goto (tgt := 395) hx hb dL_checks_391 (by decide) ?_
                        exact retP F hr rfl hH (PSI_mk hI2) (Nat.le_of_ble_eq_true rfl) (Nat.le_of_ble_eq_true rfl) dL_checks_395
                · refine lv_iload hx hb dL_checks_319 (lv_at hl 0 rfl) ?_
                  exact retP F hr rfl hH (PSI_mk hI2) (Nat.le_of_ble_eq_true rfl) (Nat.le_of_ble_eq_true rfl) dL_checks_321
              rcases hc with ⟨e1, e2, e3⟩ | ⟨e1, e2, e3, e4⟩ | ⟨e1, e2, e3, e4⟩ | ⟨e1, e2, e3, e4, e5⟩
              · refine lv_iload hx hb dL_checks_206 (lv_at hl 4 rfl) ?_
                refine lv_if_eq (tgt := 235) hx hb dL_checks_208 (by decide) (fun c_208 => absurd c_208 (by rw [e1]; decide)) (fun c_208 => ?_)
                refine lv_iload hx hb dL_checks_211 (lv_at hl 1 rfl) ?_
                refine lv_bipush (v := (-61)) hx hb dL_checks_213 (by decide) ?_
                refine lv_icmp_ne (tgt := 300) hx hb dL_checks_215 (by decide) (fun c_215 => absurd e2 c_215) (fun c_215 => ?_)
                refine lv_iload hx hb dL_checks_218 (lv_at hl 0 rfl) ?_
                refine lv_bipush (v := (-62)) hx hb dL_checks_220 (by decide) ?_
                refine lv_icmp_eq (tgt := 300) hx hb dL_checks_222 (by decide) (fun c_222 => absurd c_222 (by rcases e3 with h | h <;> rw [h] <;> decide)) (fun c_222 => ?_)
                refine lv_iload hx hb dL_checks_225 (lv_at hl 0 rfl) ?_
                refine lv_bipush (v := (-63)) hx hb dL_checks_227 (by decide) ?_
                refine lv_icmp_eq (tgt := 300) hx hb dL_checks_229 (by decide) (fun c_229 => absurd c_229 (by rcases e3 with h | h <;> rw [h] <;> decide)) (fun c_229 => ?_)
                refine lv_goto (tgt := 274) hx hb dL_checks_232 (by decide) ?_
                refine lv_iload hx hb dL_checks_274 (lv_at hl 4 rfl) ?_
                refine lv_if_ne (tgt := 296) hx hb dL_checks_276 (by decide) (fun c_276 => ?_) (fun c_276 => absurd c_276 (by rw [e1]; decide))
                refine lv_iconst (v := 1) hx hb dL_checks_296 (by decide) ?_
                refine lv_goto (tgt := 301) hx hb dL_checks_297 (by decide) ?_
                refine lv_istore (lv' := [(15, .int 1), (14, .int ml), (13, .int td), (11, .long (allS n t fd wf wa)), (10, .int hh), (9, .int o), (8, .int w), (7, .int ps), (6, .int wk), (5, .int (nI t)), (4, .int (nI n)), (3, .int od), (2, .int z0), (1, .int x0), (0, .ref (q 0))]) hx hb dL_checks_301 hl (by decide) rfl (fun ls hl => ?_)
                exact j303  _ _ _ hH (lv_sub hl [0, 2, 3, 4, 5, 6, 7, 8, 9, 10, 13, 14] rfl)
              · refine lv_iload hx hb dL_checks_206 (lv_at hl 4 rfl) ?_
                refine lv_if_eq (tgt := 235) hx hb dL_checks_208 (by decide) (fun c_208 => ?_) (fun c_208 => absurd e1 c_208)
                refine lv_iload hx hb dL_checks_235 (lv_at hl 6 rfl) ?_
                refine lv_if_eq (tgt := 252) hx hb dL_checks_237 (by decide) (fun c_237 => ?_) (fun c_237 => absurd e2 c_237)
                refine lv_iload hx hb dL_checks_252 (lv_at hl 1 rfl) ?_
                refine lv_bipush (v := (-62)) hx hb dL_checks_254 (by decide) ?_
                refine lv_icmp_ne (tgt := 300) hx hb dL_checks_256 (by decide) (fun c_256 => absurd e3 c_256) (fun c_256 => ?_)
                refine lv_goto (tgt := 274) hx hb dL_checks_259 (by decide) ?_
                refine lv_iload hx hb dL_checks_274 (lv_at hl 4 rfl) ?_
                refine lv_if_ne (tgt := 296) hx hb dL_checks_276 (by decide) (fun c_276 => absurd e1 c_276) (fun c_276 => ?_)
                refine lv_iload hx hb dL_checks_279 (lv_at hl 6 rfl) ?_
                refine lv_if_ne (tgt := 296) hx hb dL_checks_281 (by decide) (fun c_281 => absurd e2 c_281) (fun c_281 => ?_)
                refine lv_iload hx hb dL_checks_284 (lv_at hl 0 rfl) ?_
                refine lv_if_eq (tgt := 296) hx hb dL_checks_286 (by decide) (fun c_286 => ?_) (fun c_286 => ?_)
                · refine lv_iconst (v := 1) hx hb dL_checks_296 (by decide) ?_
                  refine lv_goto (tgt := 301) hx hb dL_checks_297 (by decide) ?_
                  refine lv_istore (lv' := [(15, .int 1), (14, .int ml), (13, .int td), (11, .long (allS n t fd wf wa)), (10, .int hh), (9, .int o), (8, .int w), (7, .int ps), (6, .int wk), (5, .int (nI t)), (4, .int (nI n)), (3, .int od), (2, .int z0), (1, .int x0), (0, .ref (q 0))]) hx hb dL_checks_301 hl (by decide) rfl (fun ls hl => ?_)
                  exact j303  _ _ _ hH (lv_sub hl [0, 2, 3, 4, 5, 6, 7, 8, 9, 10, 13, 14] rfl)
                · refine lv_iload hx hb dL_checks_289 (lv_at hl 0 rfl) ?_
                  refine lv_bipush (v := (-62)) hx hb dL_checks_291 (by decide) ?_
                  refine lv_icmp_ne (tgt := 300) hx hb dL_checks_293 (by decide) (fun c_293 => absurd (e4.resolve_left c_286) c_293) (fun c_293 => ?_)
                  refine lv_iconst (v := 1) hx hb dL_checks_296 (by decide) ?_
                  refine lv_goto (tgt := 301) hx hb dL_checks_297 (by decide) ?_
                  refine lv_istore (lv' := [(15, .int 1), (14, .int ml), (13, .int td), (11, .long (allS n t fd wf wa)), (10, .int hh), (9, .int o), (8, .int w), (7, .int ps), (6, .int wk), (5, .int (nI t)), (4, .int (nI n)), (3, .int od), (2, .int z0), (1, .int x0), (0, .ref (q 0))]) hx hb dL_checks_301 hl (by decide) rfl (fun ls hl => ?_)
                  exact j303  _ _ _ hH (lv_sub hl [0, 2, 3, 4, 5, 6, 7, 8, 9, 10, 13, 14] rfl)
              · refine lv_iload hx hb dL_checks_206 (lv_at hl 4 rfl) ?_
                refine lv_if_eq (tgt := 235) hx hb dL_checks_208 (by decide) (fun c_208 => ?_) (fun c_208 => absurd e1 c_208)
                refine lv_iload hx hb dL_checks_235 (lv_at hl 6 rfl) ?_
                refine lv_if_eq (tgt := 252) hx hb dL_checks_237 (by decide) (fun c_237 => absurd c_237 (by rw [e2]; decide)) (fun c_237 => ?_)
                refine lv_iload hx hb dL_checks_240 (lv_at hl 3 rfl) ?_
                refine lv_if_lt (tgt := 252) hx hb dL_checks_242 (by decide) (fun c_242 => ?_) (fun c_242 => ?_)
                · refine lv_iload hx hb dL_checks_252 (lv_at hl 1 rfl) ?_
                  refine lv_bipush (v := (-62)) hx hb dL_checks_254 (by decide) ?_
                  refine lv_icmp_ne (tgt := 300) hx hb dL_checks_256 (by decide) (fun c_256 => absurd e4 c_256) (fun c_256 => ?_)
                  refine lv_goto (tgt := 274) hx hb dL_checks_259 (by decide) ?_
                  refine lv_iload hx hb dL_checks_274 (lv_at hl 4 rfl) ?_
                  refine lv_if_ne (tgt := 296) hx hb dL_checks_276 (by decide) (fun c_276 => absurd e1 c_276) (fun c_276 => ?_)
                  refine lv_iload hx hb dL_checks_279 (lv_at hl 6 rfl) ?_
                  refine lv_if_ne (tgt := 296) hx hb dL_checks_281 (by decide) (fun c_281 => ?_) (fun c_281 => absurd c_281 (by rw [e2]; decide))
                  refine lv_iconst (v := 1) hx hb dL_checks_296 (by decide) ?_
                  refine lv_goto (tgt := 301) hx hb dL_checks_297 (by decide) ?_
                  refine lv_istore (lv' := [(15, .int 1), (14, .int ml), (13, .int td), (11, .long (allS n t fd wf wa)), (10, .int hh), (9, .int o), (8, .int w), (7, .int ps), (6, .int wk), (5, .int (nI t)), (4, .int (nI n)), (3, .int od), (2, .int z0), (1, .int x0), (0, .ref (q 0))]) hx hb dL_checks_301 hl (by decide) rfl (fun ls hl => ?_)
                  exact j303  _ _ _ hH (lv_sub hl [0, 2, 3, 4, 5, 6, 7, 8, 9, 10, 13, 14] rfl)
                · refine lv_iload hx hb dL_checks_245 (lv_at hl 3 rfl) ?_
                  refine lv_bipush (v := 80) hx hb dL_checks_247 (by decide) ?_
                  refine lv_icmp_le (tgt := 262) hx hb dL_checks_249 (by decide) (fun c_249 => absurd c_249 (i_nle (e3.resolve_left c_242))) (fun c_249 => ?_)
                  refine lv_iload hx hb dL_checks_252 (lv_at hl 1 rfl) ?_
                  refine lv_bipush (v := (-62)) hx hb dL_checks_254 (by decide) ?_
                  refine lv_icmp_ne (tgt := 300) hx hb dL_checks_256 (by decide) (fun c_256 => absurd e4 c_256) (fun c_256 => ?_)
                  refine lv_goto (tgt := 274) hx hb dL_checks_259 (by decide) ?_
                  refine lv_iload hx hb dL_checks_274 (lv_at hl 4 rfl) ?_
                  refine lv_if_ne (tgt := 296) hx hb dL_checks_276 (by decide) (fun c_276 => absurd e1 c_276) (fun c_276 => ?_)
                  refine lv_iload hx hb dL_checks_279 (lv_at hl 6 rfl) ?_
                  refine lv_if_ne (tgt := 296) hx hb dL_checks_281 (by decide) (fun c_281 => ?_) (fun c_281 => absurd c_281 (by rw [e2]; decide))
                  refine lv_iconst (v := 1) hx hb dL_checks_296 (by decide) ?_
                  refine lv_goto (tgt := 301) hx hb dL_checks_297 (by decide) ?_
                  refine lv_istore (lv' := [(15, .int 1), (14, .int ml), (13, .int td), (11, .long (allS n t fd wf wa)), (10, .int hh), (9, .int o), (8, .int w), (7, .int ps), (6, .int wk), (5, .int (nI t)), (4, .int (nI n)), (3, .int od), (2, .int z0), (1, .int x0), (0, .ref (q 0))]) hx hb dL_checks_301 hl (by decide) rfl (fun ls hl => ?_)
                  exact j303  _ _ _ hH (lv_sub hl [0, 2, 3, 4, 5, 6, 7, 8, 9, 10, 13, 14] rfl)
              · refine lv_iload hx hb dL_checks_206 (lv_at hl 4 rfl) ?_
                refine lv_if_eq (tgt := 235) hx hb dL_checks_208 (by decide) (fun c_208 => ?_) (fun c_208 => absurd e1 c_208)
                refine lv_iload hx hb dL_checks_235 (lv_at hl 6 rfl) ?_
                refine lv_if_eq (tgt := 252) hx hb dL_checks_237 (by decide) (fun c_237 => absurd c_237 (by rw [e2]; decide)) (fun c_237 => ?_)
                refine lv_iload hx hb dL_checks_240 (lv_at hl 3 rfl) ?_
                refine lv_if_lt (tgt := 252) hx hb dL_checks_242 (by decide) (fun c_242 => absurd c_242 e3) (fun c_242 => ?_)
                refine lv_iload hx hb dL_checks_245 (lv_at hl 3 rfl) ?_
                refine lv_bipush (v := 80) hx hb dL_checks_247 (by decide) ?_
                refine lv_icmp_le (tgt := 262) hx hb dL_checks_249 (by decide) (fun c_249 => ?_) (fun c_249 => absurd (i_le e4) c_249)
                refine lv_iload hx hb dL_checks_262 (lv_at hl 1 rfl) ?_
                refine lv_if_eq (tgt := 274) hx hb dL_checks_264 (by decide) (fun c_264 => ?_) (fun c_264 => ?_)
                · refine lv_iload hx hb dL_checks_274 (lv_at hl 4 rfl) ?_
                  refine lv_if_ne (tgt := 296) hx hb dL_checks_276 (by decide) (fun c_276 => absurd e1 c_276) (fun c_276 => ?_)
                  refine lv_iload hx hb dL_checks_279 (lv_at hl 6 rfl) ?_
                  refine lv_if_ne (tgt := 296) hx hb dL_checks_281 (by decide) (fun c_281 => ?_) (fun c_281 => absurd c_281 (by rw [e2]; decide))
                  refine lv_iconst (v := 1) hx hb dL_checks_296 (by decide) ?_
                  refine lv_goto (tgt := 301) hx hb dL_checks_297 (by decide) ?_
                  refine lv_istore (lv' := [(15, .int 1), (14, .int ml), (13, .int td), (11, .long (allS n t fd wf wa)), (10, .int hh), (9, .int o), (8, .int w), (7, .int ps), (6, .int wk), (5, .int (nI t)), (4, .int (nI n)), (3, .int od), (2, .int z0), (1, .int x0), (0, .ref (q 0))]) hx hb dL_checks_301 hl (by decide) rfl (fun ls hl => ?_)
                  exact j303  _ _ _ hH (lv_sub hl [0, 2, 3, 4, 5, 6, 7, 8, 9, 10, 13, 14] rfl)
                · refine lv_iload hx hb dL_checks_267 (lv_at hl 1 rfl) ?_
                  refine lv_bipush (v := (-63)) hx hb dL_checks_269 (by decide) ?_
                  refine lv_icmp_ne (tgt := 300) hx hb dL_checks_271 (by decide) (fun c_271 => absurd (e5.resolve_left c_264) c_271) (fun c_271 => ?_)
                  refine lv_iload hx hb dL_checks_274 (lv_at hl 4 rfl) ?_
                  refine lv_if_ne (tgt := 296) hx hb dL_checks_276 (by decide) (fun c_276 => absurd e1 c_276) (fun c_276 => ?_)
                  refine lv_iload hx hb dL_checks_279 (lv_at hl 6 rfl) ?_
                  refine lv_if_ne (tgt := 296) hx hb dL_checks_281 (by decide) (fun c_281 => ?_) (fun c_281 => absurd c_281 (by rw [e2]; decide))
                  refine lv_iconst (v := 1) hx hb dL_checks_296 (by decide) ?_
                  refine lv_goto (tgt := 301) hx hb dL_checks_297 (by decide) ?_
                  refine lv_istore (lv' := [(15, .int 1), (14, .int ml), (13, .int td), (11, .long (allS n t fd wf wa)), (10, .int hh), (9, .int o), (8, .int w), (7, .int ps), (6, .int wk), (5, .int (nI t)), (4, .int (nI n)), (3, .int od), (2, .int z0), (1, .int x0), (0, .ref (q 0))]) hx hb dL_checks_301 hl (by decide) rfl (fun ls hl => ?_)
                  exact j303  _ _ _ hH (lv_sub hl [0, 2, 3, 4, 5, 6, 7, 8, 9, 10, 13, 14] rfl)
            rcases ho with ⟨ho, hw⟩ | ⟨ho, i, hi, hw⟩
            · refine lv_lstore (lv' := [(11, .long (allS n t fd wf wa)), (10, .int hh), (9, .int o), (8, .int w), (7, .int ps), (6, .int wk), (5, .int (nI t)), (4, .int (nI n)), (0, .ref (q 0)), (1, .int x0), (2, .int z0), (3, .int od)]) hx hb dL_checks_151 hl (by decide) rfl (fun ls hl => ?_)
              refine lv_aload_n hx hb dL_checks_153 rfl (lv_at hl 8 rfl) ?_
              refine lv_bipush (v := 11) hx hb dL_checks_154 (by decide) ?_
              refine lv_iload hx hb dL_checks_156 (lv_at hl 3 rfl) ?_
              refine lv_iload hx hb dL_checks_158 (lv_at hl 5 rfl) ?_
              refine lv_iload hx hb dL_checks_160 (lv_at hl 1 rfl) ?_
              refine lv_iconst (v := 0) hx hb dL_checks_162 (by decide) ?_
              refine callLI (rest := []) F (k_door_0 l hst G q n nc t fl fd k wd wf wa cd cf hn w hw wk hh 0) gL_checks_L_call rfl hdL_call ⟨Nat.le_of_ble_eq_true rfl, Nat.le_of_ble_eq_true rfl⟩ ([] : va_W) ([] : va_W) hH (by simp only [List.nil_append, List.append_nil]) rfl hl.1 (Nat.le_of_ble_eq_true rfl) dL_checks_163 ⟨(Nat.le_of_ble_eq_true rfl), (Nat.le_of_ble_eq_true rfl)⟩ rfl (fun u H locs hH => ?_)
              rw [List.nil_append, List.append_nil] at hH
              have hH : HH G A s (sW G q n nc t fl fd k wd wf wa cd cf) H locs := hH
              refine lv_istore (lv' := [(13, .int (-61)), (11, .long (allS n t fd wf wa)), (10, .int hh), (9, .int o), (8, .int w), (7, .int ps), (6, .int wk), (5, .int (nI t)), (4, .int (nI n)), (0, .ref (q 0)), (1, .int x0), (2, .int z0), (3, .int od)]) hx hb dL_checks_166 hl (by decide) rfl (fun ls hl => ?_)
              refine lv_iload_n hx hb dL_checks_168 rfl (lv_at hl 10 rfl) ?_
              refine lv_iconst (v := 4) hx hb dL_checks_169 (by decide) ?_
              refine lv_ishr hx hb dL_checks_170 ?_
              refine lv_iconst (v := 2) hx hb dL_checks_171 (by decide) ?_
              refine callSI (rest := []) F (c_some l G (sW G q n nc t fl fd k wd wf wa cd cf) (x0 >>> (4 &&& 31)) 2 (by decide)) gL_checks_L_some rfl hdL_some ⟨Nat.le_of_ble_eq_true rfl, Nat.le_of_ble_eq_true rfl⟩ ([] : va_W) ([] : va_W) hH (by simp only [List.nil_append, List.append_nil]) rfl hl.1 (Nat.le_of_ble_eq_true rfl) dL_checks_172 ⟨(Nat.le_of_ble_eq_true rfl), (Nat.le_of_ble_eq_true rfl)⟩ rfl (fun u H locs hH => ?_)
              rw [List.nil_append, List.append_nil] at hH
              have hH : HH G A s (sW G q n nc t fl fd k wd wf wa cd cf) H locs := hH
              refine lv_if_ne (tgt := 193) hx hb dL_checks_175 (by decide) (fun c_175 => ?_) (fun c_175 => ?_)
              · refine lv_iconst (v := 0) hx hb dL_checks_193 (by decide) ?_
                refine W.widen (k := 2) (n := 12) (Nat.le_of_ble_eq_true rfl) (Nat.le_of_ble_eq_true rfl) ?_
                exact j194 (-61) 0 wa hI rfl (Or.inl ⟨ho, rfl, Or.inl rfl⟩) (fun h9 => absurd h9 (by decide)) _ _ _ hH (lv_sub hl [0, 1, 2, 3, 4, 5, 6, 7, 8, 12, 11, 10, 9] rfl)
              · refine lv_aload_n hx hb dL_checks_178 rfl (lv_at hl 9 rfl) ?_
                refine lv_bipush (v := 12) hx hb dL_checks_179 (by decide) ?_
                refine lv_iload hx hb dL_checks_181 (lv_at hl 4 rfl) ?_
                refine lv_iload hx hb dL_checks_183 (lv_at hl 6 rfl) ?_
                refine lv_iconst (v := 0) hx hb dL_checks_185 (by decide) ?_
                refine lv_iconst (v := 0) hx hb dL_checks_186 (by decide) ?_
                refine callLI (rest := []) F (k_mail_0 l hst G q n nc t fl fd k wd wf wa cd cf hn w hw wk 0 0) gL_checks_L_call rfl hdL_call ⟨Nat.le_of_ble_eq_true rfl, Nat.le_of_ble_eq_true rfl⟩ ([] : va_W) ([] : va_W) hH (by simp only [List.nil_append, List.append_nil]) rfl hl.1 (Nat.le_of_ble_eq_true rfl) dL_checks_187 ⟨(Nat.le_of_ble_eq_true rfl), (Nat.le_of_ble_eq_true rfl)⟩ rfl (fun u H locs hH => ?_)
                rw [List.nil_append, List.append_nil] at hH
                have hH : HH G A s (sW G q n nc t fl fd k wd wf wa cd cf) H locs := hH
                refine lv_goto (tgt := 194) hx hb dL_checks_190 (by decide) ?_
                refine W.widen (k := 2) (n := 12) (Nat.le_of_ble_eq_true rfl) (Nat.le_of_ble_eq_true rfl) ?_
                exact j194 (-61) (-61) wa hI rfl (Or.inl ⟨ho, rfl, Or.inr rfl⟩) (fun h9 => absurd h9 (by decide)) _ _ _ hH (lv_sub hl [0, 1, 2, 3, 4, 5, 6, 7, 8, 12, 11, 10, 9] rfl)
            · subst hw
              rcases hps with ⟨hps, hwk⟩ | ⟨hps, j, hj, hwk⟩
              · refine lv_lstore (lv' := [(11, .long (allS n t fd wf wa)), (10, .int hh), (9, .int o), (8, .int (nI i)), (7, .int ps), (6, .int wk), (5, .int (nI t)), (4, .int (nI n)), (0, .ref (q 0)), (1, .int x0), (2, .int z0), (3, .int od)]) hx hb dL_checks_151 hl (by decide) rfl (fun ls hl => ?_)
                refine lv_aload_n hx hb dL_checks_153 rfl (lv_at hl 8 rfl) ?_
                refine lv_bipush (v := 11) hx hb dL_checks_154 (by decide) ?_
                refine lv_iload hx hb dL_checks_156 (lv_at hl 3 rfl) ?_
                refine lv_iload hx hb dL_checks_158 (lv_at hl 5 rfl) ?_
                refine lv_iload hx hb dL_checks_160 (lv_at hl 1 rfl) ?_
                refine lv_iconst (v := 0) hx hb dL_checks_162 (by decide) ?_
                refine callLI (rest := []) F (k_door_2 l hst G q n nc t fl fd k wd wf wa cd cf hn i hi ht wk hh hwk 0) gL_checks_L_call rfl hdL_call ⟨Nat.le_of_ble_eq_true rfl, Nat.le_of_ble_eq_true rfl⟩ ([] : va_W) ([] : va_W) hH (by simp only [List.nil_append, List.append_nil]) rfl hl.1 (Nat.le_of_ble_eq_true rfl) dL_checks_163 ⟨(Nat.le_of_ble_eq_true rfl), (Nat.le_of_ble_eq_true rfl)⟩ rfl (fun u H locs hH => ?_)
                rw [List.nil_append, List.append_nil] at hH
                have hH : HH G A s (sW G q n nc t fl fd k wd wf wa cd cf) H locs := hH
                refine lv_istore (lv' := [(13, .int (-62)), (11, .long (allS n t fd wf wa)), (10, .int hh), (9, .int o), (8, .int (nI i)), (7, .int ps), (6, .int wk), (5, .int (nI t)), (4, .int (nI n)), (0, .ref (q 0)), (1, .int x0), (2, .int z0), (3, .int od)]) hx hb dL_checks_166 hl (by decide) rfl (fun ls hl => ?_)
                refine lv_iload_n hx hb dL_checks_168 rfl (lv_at hl 10 rfl) ?_
                refine lv_iconst (v := 4) hx hb dL_checks_169 (by decide) ?_
                refine lv_ishr hx hb dL_checks_170 ?_
                refine lv_iconst (v := 2) hx hb dL_checks_171 (by decide) ?_
                refine callSI (rest := []) F (c_some l G (sW G q n nc t fl fd k wd wf wa cd cf) (x0 >>> (4 &&& 31)) 2 (by decide)) gL_checks_L_some rfl hdL_some ⟨Nat.le_of_ble_eq_true rfl, Nat.le_of_ble_eq_true rfl⟩ ([] : va_W) ([] : va_W) hH (by simp only [List.nil_append, List.append_nil]) rfl hl.1 (Nat.le_of_ble_eq_true rfl) dL_checks_172 ⟨(Nat.le_of_ble_eq_true rfl), (Nat.le_of_ble_eq_true rfl)⟩ rfl (fun u H locs hH => ?_)
                rw [List.nil_append, List.append_nil] at hH
                have hH : HH G A s (sW G q n nc t fl fd k wd wf wa cd cf) H locs := hH
                refine lv_if_ne (tgt := 193) hx hb dL_checks_175 (by decide) (fun c_175 => ?_) (fun c_175 => ?_)
                · refine lv_iconst (v := 0) hx hb dL_checks_193 (by decide) ?_
                  refine W.widen (k := 2) (n := 12) (Nat.le_of_ble_eq_true rfl) (Nat.le_of_ble_eq_true rfl) ?_
                  exact j194 (-62) 0 wa hI rfl (Or.inr (Or.inl ⟨ho, hps, rfl, Or.inl rfl⟩)) (fun h9 => absurd h9 (by decide)) _ _ _ hH (lv_sub hl [0, 1, 2, 3, 4, 5, 6, 7, 8, 12, 11, 10, 9] rfl)
                · refine lv_aload_n hx hb dL_checks_178 rfl (lv_at hl 9 rfl) ?_
                  refine lv_bipush (v := 12) hx hb dL_checks_179 (by decide) ?_
                  refine lv_iload hx hb dL_checks_181 (lv_at hl 4 rfl) ?_
                  refine lv_iload hx hb dL_checks_183 (lv_at hl 6 rfl) ?_
                  refine lv_iconst (v := 0) hx hb dL_checks_185 (by decide) ?_
                  refine lv_iconst (v := 0) hx hb dL_checks_186 (by decide) ?_
                  refine callLI (rest := []) F (k_mail_2 l hst G q n nc t fl fd k wd wf wa cd cf hn i hi ht wk hwk 0 0) gL_checks_L_call rfl hdL_call ⟨Nat.le_of_ble_eq_true rfl, Nat.le_of_ble_eq_true rfl⟩ ([] : va_W) ([] : va_W) hH (by simp only [List.nil_append, List.append_nil]) rfl hl.1 (Nat.le_of_ble_eq_true rfl) dL_checks_187 ⟨(Nat.le_of_ble_eq_true rfl), (Nat.le_of_ble_eq_true rfl)⟩ rfl (fun u H locs hH => ?_)
                  rw [List.nil_append, List.append_nil] at hH
                  have hH : HH G A s (sW G q n nc t fl fd k wd wf wa cd cf) H locs := hH
                  refine lv_goto (tgt := 194) hx hb dL_checks_190 (by decide) ?_
                  refine W.widen (k := 2) (n := 12) (Nat.le_of_ble_eq_true rfl) (Nat.le_of_ble_eq_true rfl) ?_
                  exact j194 (-62) (-62) wa hI rfl (Or.inr (Or.inl ⟨ho, hps, rfl, Or.inr rfl⟩)) (fun h9 => absurd h9 (by decide)) _ _ _ hH (lv_sub hl [0, 1, 2, 3, 4, 5, 6, 7, 8, 12, 11, 10, 9] rfl)
              · subst hwk
                rcases rg0 hh (N := 80) (by decide) with hb9 | ⟨h, h80, rfl⟩
                · refine lv_lstore (lv' := [(11, .long (allS n t fd wf wa)), (10, .int hh), (9, .int o), (8, .int (nI i)), (7, .int ps), (6, .int (nI j)), (5, .int (nI t)), (4, .int (nI n)), (0, .ref (q 0)), (1, .int x0), (2, .int z0), (3, .int od)]) hx hb dL_checks_151 hl (by decide) rfl (fun ls hl => ?_)
                  refine lv_aload_n hx hb dL_checks_153 rfl (lv_at hl 8 rfl) ?_
                  refine lv_bipush (v := 11) hx hb dL_checks_154 (by decide) ?_
                  refine lv_iload hx hb dL_checks_156 (lv_at hl 3 rfl) ?_
                  refine lv_iload hx hb dL_checks_158 (lv_at hl 5 rfl) ?_
                  refine lv_iload hx hb dL_checks_160 (lv_at hl 1 rfl) ?_
                  refine lv_iconst (v := 0) hx hb dL_checks_162 (by decide) ?_
                  refine callLI (rest := []) F (k_door_22 l hst G q n nc t fl fd k wd wf wa cd cf hn i hi ht j hj hh hb9 0) gL_checks_L_call rfl hdL_call ⟨Nat.le_of_ble_eq_true rfl, Nat.le_of_ble_eq_true rfl⟩ ([] : va_W) ([] : va_W) hH (by simp only [List.nil_append, List.append_nil]) rfl hl.1 (Nat.le_of_ble_eq_true rfl) dL_checks_163 ⟨(Nat.le_of_ble_eq_true rfl), (Nat.le_of_ble_eq_true rfl)⟩ rfl (fun u H locs hH => ?_)
                  rw [List.nil_append, List.append_nil] at hH
                  have hH : HH G A s (sW G q n nc t fl fd k wd wf wa cd cf) H locs := hH
                  refine lv_istore (lv' := [(13, .int (-62)), (11, .long (allS n t fd wf wa)), (10, .int hh), (9, .int o), (8, .int (nI i)), (7, .int ps), (6, .int (nI j)), (5, .int (nI t)), (4, .int (nI n)), (0, .ref (q 0)), (1, .int x0), (2, .int z0), (3, .int od)]) hx hb dL_checks_166 hl (by decide) rfl (fun ls hl => ?_)
                  refine lv_iload_n hx hb dL_checks_168 rfl (lv_at hl 10 rfl) ?_
                  refine lv_iconst (v := 4) hx hb dL_checks_169 (by decide) ?_
                  refine lv_ishr hx hb dL_checks_170 ?_
                  refine lv_iconst (v := 2) hx hb dL_checks_171 (by decide) ?_
                  refine callSI (rest := []) F (c_some l G (sW G q n nc t fl fd k wd wf wa cd cf) (x0 >>> (4 &&& 31)) 2 (by decide)) gL_checks_L_some rfl hdL_some ⟨Nat.le_of_ble_eq_true rfl, Nat.le_of_ble_eq_true rfl⟩ ([] : va_W) ([] : va_W) hH (by simp only [List.nil_append, List.append_nil]) rfl hl.1 (Nat.le_of_ble_eq_true rfl) dL_checks_172 ⟨(Nat.le_of_ble_eq_true rfl), (Nat.le_of_ble_eq_true rfl)⟩ rfl (fun u H locs hH => ?_)
                  rw [List.nil_append, List.append_nil] at hH
                  have hH : HH G A s (sW G q n nc t fl fd k wd wf wa cd cf) H locs := hH
                  refine lv_if_ne (tgt := 193) hx hb dL_checks_175 (by decide) (fun c_175 => ?_) (fun c_175 => ?_)
                  · refine lv_iconst (v := 0) hx hb dL_checks_193 (by decide) ?_
                    refine W.widen (k := 2) (n := 12) (Nat.le_of_ble_eq_true rfl) (Nat.le_of_ble_eq_true rfl) ?_
                    exact j194 (-62) 0 wa hI rfl (Or.inr (Or.inr (Or.inl ⟨ho, hps, hb9, rfl⟩))) (fun h9 => absurd h9 (by decide)) _ _ _ hH (lv_sub hl [0, 1, 2, 3, 4, 5, 6, 7, 8, 12, 11, 10, 9] rfl)
                  · by_cases hk : k j = 0
                    · refine lv_aload_n hx hb dL_checks_178 rfl (lv_at hl 9 rfl) ?_
                      refine lv_bipush (v := 12) hx hb dL_checks_179 (by decide) ?_
                      refine lv_iload hx hb dL_checks_181 (lv_at hl 4 rfl) ?_
                      refine lv_iload hx hb dL_checks_183 (lv_at hl 6 rfl) ?_
                      refine lv_iconst (v := 0) hx hb dL_checks_185 (by decide) ?_
                      refine lv_iconst (v := 0) hx hb dL_checks_186 (by decide) ?_
                      refine callLI (rest := []) F (k_mail_1 l G q n nc t fl fd k wd wf wa cd cf hn i hi ht j hj hk 0 0) gL_checks_L_call rfl hdL_call ⟨Nat.le_of_ble_eq_true rfl, Nat.le_of_ble_eq_true rfl⟩ ([] : va_W) ([] : va_W) hH (by simp only [List.nil_append, List.append_nil]) rfl hl.1 (Nat.le_of_ble_eq_true rfl) dL_checks_187 ⟨(Nat.le_of_ble_eq_true rfl), (Nat.le_of_ble_eq_true rfl)⟩ rfl (fun u H locs hH => ?_)
                      rw [List.nil_append, List.append_nil] at hH
                      have hH : HH G A s (sW G q n nc t fl fd k wd wf (va_up wa i (va_up (wa i) 7 (upd (wa i 7) j 1))) cd cf) H locs := hH
                      refine lv_goto (tgt := 194) hx hb dL_checks_190 (by decide) ?_
                      refine W.widen (k := 2) (n := 12) (Nat.le_of_ble_eq_true rfl) (Nat.le_of_ble_eq_true rfl) ?_
                      exact j194 (-62) 0 _ (IN_row hI hi (by decide) (by decide) (by decide)) (allS_row (by decide) (by decide)) (Or.inr (Or.inr (Or.inl ⟨ho, hps, hb9, rfl⟩))) (fun h9 => absurd h9 (by decide)) _ _ _ hH (lv_sub hl [0, 1, 2, 3, 4, 5, 6, 7, 8, 12, 11, 10, 9] rfl)
                    · refine lv_aload_n hx hb dL_checks_178 rfl (lv_at hl 9 rfl) ?_
                      refine lv_bipush (v := 12) hx hb dL_checks_179 (by decide) ?_
                      refine lv_iload hx hb dL_checks_181 (lv_at hl 4 rfl) ?_
                      refine lv_iload hx hb dL_checks_183 (lv_at hl 6 rfl) ?_
                      refine lv_iconst (v := 0) hx hb dL_checks_185 (by decide) ?_
                      refine lv_iconst (v := 0) hx hb dL_checks_186 (by decide) ?_
                      refine callLI (rest := []) F (k_mail_3 l hst G q n nc t fl fd k wd wf wa cd cf hn i hi ht j hj hk 0 0) gL_checks_L_call rfl hdL_call ⟨Nat.le_of_ble_eq_true rfl, Nat.le_of_ble_eq_true rfl⟩ ([] : va_W) ([] : va_W) hH (by simp only [List.nil_append, List.append_nil]) rfl hl.1 (Nat.le_of_ble_eq_true rfl) dL_checks_187 ⟨(Nat.le_of_ble_eq_true rfl), (Nat.le_of_ble_eq_true rfl)⟩ rfl (fun u H locs hH => ?_)
                      rw [List.nil_append, List.append_nil] at hH
                      have hH : HH G A s (sW G q n nc t fl fd k wd wf wa cd cf) H locs := hH
                      refine lv_goto (tgt := 194) hx hb dL_checks_190 (by decide) ?_
                      refine W.widen (k := 2) (n := 12) (Nat.le_of_ble_eq_true rfl) (Nat.le_of_ble_eq_true rfl) ?_
                      exact j194 (-62) (-63) wa hI rfl (Or.inr (Or.inr (Or.inl ⟨ho, hps, hb9, rfl⟩))) (fun h9 => absurd h9 (by decide)) _ _ _ hH (lv_sub hl [0, 1, 2, 3, 4, 5, 6, 7, 8, 12, 11, 10, 9] rfl)
                · by_cases hk : k j = 0
                  · refine lv_lstore (lv' := [(11, .long (allS n t fd wf wa)), (10, .int (nI h)), (9, .int o), (8, .int (nI i)), (7, .int ps), (6, .int (nI j)), (5, .int (nI t)), (4, .int (nI n)), (0, .ref (q 0)), (1, .int x0), (2, .int z0), (3, .int od)]) hx hb dL_checks_151 hl (by decide) rfl (fun ls hl => ?_)
                    refine lv_aload_n hx hb dL_checks_153 rfl (lv_at hl 8 rfl) ?_
                    refine lv_bipush (v := 11) hx hb dL_checks_154 (by decide) ?_
                    refine lv_iload hx hb dL_checks_156 (lv_at hl 3 rfl) ?_
                    refine lv_iload hx hb dL_checks_158 (lv_at hl 5 rfl) ?_
                    refine lv_iload hx hb dL_checks_160 (lv_at hl 1 rfl) ?_
                    refine lv_iconst (v := 0) hx hb dL_checks_162 (by decide) ?_
                    refine callLI (rest := []) F (k_door_1 l G q n nc t fl fd k wd wf wa cd cf hn i hi ht j hj (nI h) (nI_0le (by omega)) (nI_le (b := 80) h80 (by decide)) hk 0) gL_checks_L_call rfl hdL_call ⟨Nat.le_of_ble_eq_true rfl, Nat.le_of_ble_eq_true rfl⟩ ([] : va_W) ([] : va_W) hH (by simp only [List.nil_append, List.append_nil]) rfl hl.1 (Nat.le_of_ble_eq_true rfl) dL_checks_163 ⟨(Nat.le_of_ble_eq_true rfl), (Nat.le_of_ble_eq_true rfl)⟩ rfl (fun u H locs hH => ?_)
                    rw [List.nil_append, List.append_nil] at hH
                    have hH : HH G A s (sW G q n nc t fl fd k wd wf (va_up wa i (va_up (wa i) 6 (upd (wa i 6) j (nI h)))) cd cf) H locs := hH
                    have hI1 := IN_row (r := 6) (g := upd (wa i 6) j (nI h)) hI hi (by decide) (by decide) (by decide)
                    have hal1 : allS n t fd wf (va_up wa i (va_up (wa i) 6 (upd (wa i 6) j (nI h)))) = allS n t fd wf wa := allS_row (by decide) (by decide)
                    have h61 : (va_up wa i (va_up (wa i) 6 (upd (wa i 6) j (nI h)))) i 6 j = nI h := by
                      rw [va_up_self, va_up_self]
                      exact pk_us
                    obtain ⟨wa1, hwa1⟩ : ∃ x9, x9 = va_up wa i (va_up (wa i) 6 (upd (wa i 6) j (nI h))) := ⟨_, rfl⟩
                    rw [← hwa1] at hH hI1 hal1 h61
                    clear hwa1
                    refine lv_istore (lv' := [(13, .int 0), (11, .long (allS n t fd wf wa)), (10, .int (nI h)), (9, .int o), (8, .int (nI i)), (7, .int ps), (6, .int (nI j)), (5, .int (nI t)), (4, .int (nI n)), (0, .ref (q 0)), (1, .int x0), (2, .int z0), (3, .int od)]) hx hb dL_checks_166 hl (by decide) rfl (fun ls hl => ?_)
                    refine lv_iload_n hx hb dL_checks_168 rfl (lv_at hl 10 rfl) ?_
                    refine lv_iconst (v := 4) hx hb dL_checks_169 (by decide) ?_
                    refine lv_ishr hx hb dL_checks_170 ?_
                    refine lv_iconst (v := 2) hx hb dL_checks_171 (by decide) ?_
                    refine callSI (rest := []) F (c_some l G (sW G q n nc t fl fd k wd wf wa1 cd cf) (x0 >>> (4 &&& 31)) 2 (by decide)) gL_checks_L_some rfl hdL_some ⟨Nat.le_of_ble_eq_true rfl, Nat.le_of_ble_eq_true rfl⟩ ([] : va_W) ([] : va_W) hH (by simp only [List.nil_append, List.append_nil]) rfl hl.1 (Nat.le_of_ble_eq_true rfl) dL_checks_172 ⟨(Nat.le_of_ble_eq_true rfl), (Nat.le_of_ble_eq_true rfl)⟩ rfl (fun u H locs hH => ?_)
                    rw [List.nil_append, List.append_nil] at hH
                    have hH : HH G A s (sW G q n nc t fl fd k wd wf wa1 cd cf) H locs := hH
                    refine lv_if_ne (tgt := 193) hx hb dL_checks_175 (by decide) (fun c_175 => ?_) (fun c_175 => ?_)
                    · refine lv_iconst (v := 0) hx hb dL_checks_193 (by decide) ?_
                      refine W.widen (k := 2) (n := 12) (Nat.le_of_ble_eq_true rfl) (Nat.le_of_ble_eq_true rfl) ?_
                      exact j194 0 0 wa1 hI1 hal1 (Or.inr (Or.inr (Or.inr ⟨ho, hps, nI_pos (by omega), nI_nlt (a := 80) h80 (by decide), Or.inl rfl⟩))) (fun _ _ => ⟨i, j, hi, hj, rfl, rfl, h61⟩) _ _ _ hH (lv_sub hl [0, 1, 2, 3, 4, 5, 6, 7, 8, 12, 11, 10, 9] rfl)
                    · refine lv_aload_n hx hb dL_checks_178 rfl (lv_at hl 9 rfl) ?_
                      refine lv_bipush (v := 12) hx hb dL_checks_179 (by decide) ?_
                      refine lv_iload hx hb dL_checks_181 (lv_at hl 4 rfl) ?_
                      refine lv_iload hx hb dL_checks_183 (lv_at hl 6 rfl) ?_
                      refine lv_iconst (v := 0) hx hb dL_checks_185 (by decide) ?_
                      refine lv_iconst (v := 0) hx hb dL_checks_186 (by decide) ?_
                      refine callLI (rest := []) F (k_mail_1 l G q n nc t fl fd k wd wf wa1 cd cf hn i hi ht j hj hk 0 0) gL_checks_L_call rfl hdL_call ⟨Nat.le_of_ble_eq_true rfl, Nat.le_of_ble_eq_true rfl⟩ ([] : va_W) ([] : va_W) hH (by simp only [List.nil_append, List.append_nil]) rfl hl.1 (Nat.le_of_ble_eq_true rfl) dL_checks_187 ⟨(Nat.le_of_ble_eq_true rfl), (Nat.le_of_ble_eq_true rfl)⟩ rfl (fun u H locs hH => ?_)
                      rw [List.nil_append, List.append_nil] at hH
                      have hH : HH G A s (sW G q n nc t fl fd k wd wf (va_up wa1 i (va_up (wa1 i) 7 (upd (wa1 i 7) j 1))) cd cf) H locs := hH
                      refine lv_goto (tgt := 194) hx hb dL_checks_190 (by decide) ?_
                      refine W.widen (k := 2) (n := 12) (Nat.le_of_ble_eq_true rfl) (Nat.le_of_ble_eq_true rfl) ?_
                      exact j194 0 0 _ (IN_row hI1 hi (by decide) (by decide) (by decide)) ((allS_row (by decide) (by decide)).trans hal1) (Or.inr (Or.inr (Or.inr ⟨ho, hps, nI_pos (by omega), nI_nlt (a := 80) h80 (by decide), Or.inl rfl⟩))) (fun _ _ => ⟨i, j, hi, hj, rfl, rfl, by rw [va_up_self]; exact h61⟩) _ _ _ hH (lv_sub hl [0, 1, 2, 3, 4, 5, 6, 7, 8, 12, 11, 10, 9] rfl)
                  · refine lv_lstore (lv' := [(11, .long (allS n t fd wf wa)), (10, .int (nI h)), (9, .int o), (8, .int (nI i)), (7, .int ps), (6, .int (nI j)), (5, .int (nI t)), (4, .int (nI n)), (0, .ref (q 0)), (1, .int x0), (2, .int z0), (3, .int od)]) hx hb dL_checks_151 hl (by decide) rfl (fun ls hl => ?_)
                    refine lv_aload_n hx hb dL_checks_153 rfl (lv_at hl 8 rfl) ?_
                    refine lv_bipush (v := 11) hx hb dL_checks_154 (by decide) ?_
                    refine lv_iload hx hb dL_checks_156 (lv_at hl 3 rfl) ?_
                    refine lv_iload hx hb dL_checks_158 (lv_at hl 5 rfl) ?_
                    refine lv_iload hx hb dL_checks_160 (lv_at hl 1 rfl) ?_
                    refine lv_iconst (v := 0) hx hb dL_checks_162 (by decide) ?_
                    refine callLI (rest := []) F (k_door_3 l hst G q n nc t fl fd k wd wf wa cd cf hn i hi ht j hj (nI h) (nI_0le (by omega)) (nI_le (b := 80) h80 (by decide)) hk 0) gL_checks_L_call rfl hdL_call ⟨Nat.le_of_ble_eq_true rfl, Nat.le_of_ble_eq_true rfl⟩ ([] : va_W) ([] : va_W) hH (by simp only [List.nil_append, List.append_nil]) rfl hl.1 (Nat.le_of_ble_eq_true rfl) dL_checks_163 ⟨(Nat.le_of_ble_eq_true rfl), (Nat.le_of_ble_eq_true rfl)⟩ rfl (fun u H locs hH => ?_)
                    rw [List.nil_append, List.append_nil] at hH
                    have hH : HH G A s (sW G q n nc t fl fd k wd wf wa cd cf) H locs := hH
                    refine lv_istore (lv' := [(13, .int (-63)), (11, .long (allS n t fd wf wa)), (10, .int (nI h)), (9, .int o), (8, .int (nI i)), (7, .int ps), (6, .int (nI j)), (5, .int (nI t)), (4, .int (nI n)), (0, .ref (q 0)), (1, .int x0), (2, .int z0), (3, .int od)]) hx hb dL_checks_166 hl (by decide) rfl (fun ls hl => ?_)
                    refine lv_iload_n hx hb dL_checks_168 rfl (lv_at hl 10 rfl) ?_
                    refine lv_iconst (v := 4) hx hb dL_checks_169 (by decide) ?_
                    refine lv_ishr hx hb dL_checks_170 ?_
                    refine lv_iconst (v := 2) hx hb dL_checks_171 (by decide) ?_
                    refine callSI (rest := []) F (c_some l G (sW G q n nc t fl fd k wd wf wa cd cf) (x0 >>> (4 &&& 31)) 2 (by decide)) gL_checks_L_some rfl hdL_some ⟨Nat.le_of_ble_eq_true rfl, Nat.le_of_ble_eq_true rfl⟩ ([] : va_W) ([] : va_W) hH (by simp only [List.nil_append, List.append_nil]) rfl hl.1 (Nat.le_of_ble_eq_true rfl) dL_checks_172 ⟨(Nat.le_of_ble_eq_true rfl), (Nat.le_of_ble_eq_true rfl)⟩ rfl (fun u H locs hH => ?_)
                    rw [List.nil_append, List.append_nil] at hH
                    have hH : HH G A s (sW G q n nc t fl fd k wd wf wa cd cf) H locs := hH
                    refine lv_if_ne (tgt := 193) hx hb dL_checks_175 (by decide) (fun c_175 => ?_) (fun c_175 => ?_)
                    · refine lv_iconst (v := 0) hx hb dL_checks_193 (by decide) ?_
                      refine W.widen (k := 2) (n := 12) (Nat.le_of_ble_eq_true rfl) (Nat.le_of_ble_eq_true rfl) ?_
                      exact j194 (-63) 0 wa hI rfl (Or.inr (Or.inr (Or.inr ⟨ho, hps, nI_pos (by omega), nI_nlt (a := 80) h80 (by decide), Or.inr rfl⟩))) (fun h9 => absurd h9 (by decide)) _ _ _ hH (lv_sub hl [0, 1, 2, 3, 4, 5, 6, 7, 8, 12, 11, 10, 9] rfl)
                    · refine lv_aload_n hx hb dL_checks_178 rfl (lv_at hl 9 rfl) ?_
                      refine lv_bipush (v := 12) hx hb dL_checks_179 (by decide) ?_
                      refine lv_iload hx hb dL_checks_181 (lv_at hl 4 rfl) ?_
                      refine lv_iload hx hb dL_checks_183 (lv_at hl 6 rfl) ?_
                      refine lv_iconst (v := 0) hx hb dL_checks_185 (by decide) ?_
                      refine lv_iconst (v := 0) hx hb dL_checks_186 (by decide) ?_
                      refine callLI (rest := []) F (k_mail_3 l hst G q n nc t fl fd k wd wf wa cd cf hn i hi ht j hj hk 0 0) gL_checks_L_call rfl hdL_call ⟨Nat.le_of_ble_eq_true rfl, Nat.le_of_ble_eq_true rfl⟩ ([] : va_W) ([] : va_W) hH (by simp only [List.nil_append, List.append_nil]) rfl hl.1 (Nat.le_of_ble_eq_true rfl) dL_checks_187 ⟨(Nat.le_of_ble_eq_true rfl), (Nat.le_of_ble_eq_true rfl)⟩ rfl (fun u H locs hH => ?_)
                      rw [List.nil_append, List.append_nil] at hH
                      have hH : HH G A s (sW G q n nc t fl fd k wd wf wa cd cf) H locs := hH
                      refine lv_goto (tgt := 194) hx hb dL_checks_190 (by decide) ?_
                      refine W.widen (k := 2) (n := 12) (Nat.le_of_ble_eq_true rfl) (Nat.le_of_ble_eq_true rfl) ?_
                      exact j194 (-63) (-63) wa hI rfl (Or.inr (Or.inr (Or.inr ⟨ho, hps, nI_pos (by omega), nI_nlt (a := 80) h80 (by decide), Or.inr rfl⟩))) (fun h9 => absurd h9 (by decide)) _ _ _ hH (lv_sub hl [0, 1, 2, 3, 4, 5, 6, 7, 8, 12, 11, 10, 9] rfl)
          refine lv_if_eq (tgt := 136) hx hb dL_checks_119 (by decide) (fun c_119 => ?_) (fun c_119 => ?_)
          · refine lv_iload_n hx hb dL_checks_136 rfl (lv_at hl 8 rfl) ?_
            refine lv_bipush (v := 6) hx hb dL_checks_137 (by decide) ?_
            refine lv_ishr hx hb dL_checks_139 ?_
            refine lv_bipush (v := 70) hx hb dL_checks_140 (by decide) ?_
            refine callSI (rest := []) F (c_some l G (sW G q n nc t fl fd k wd wf wa cd cf) (z0 >>> (6 &&& 31)) 70 (by decide)) gL_checks_L_some rfl hdL_some ⟨Nat.le_of_ble_eq_true rfl, Nat.le_of_ble_eq_true rfl⟩ ([] : va_W) ([] : va_W) hH (by simp only [List.nil_append, List.append_nil]) rfl hl.1 (Nat.le_of_ble_eq_true rfl) dL_checks_142 ⟨(Nat.le_of_ble_eq_true rfl), (Nat.le_of_ble_eq_true rfl)⟩ rfl (fun u H locs hH => ?_)
            rw [List.nil_append, List.append_nil] at hH
            have hH : HH G A s (sW G q n nc t fl fd k wd wf wa cd cf) H locs := hH
            refine W.widen (k := 0 + 0 + 0) (n := 0 + 0 + 0) (Nat.le_of_ble_eq_true rfl) (Nat.le_of_ble_eq_true rfl) ?_
            exact j145 _ _ _ _ hH (lv_sub hl [0, 1, 2, 3, 4, 5, 6, 7, 8, 9] rfl)
          · refine lv_iload_n hx hb dL_checks_122 rfl (lv_at hl 8 rfl) ?_
            refine lv_bipush (v := 6) hx hb dL_checks_123 (by decide) ?_
            refine lv_ishr hx hb dL_checks_125 ?_
            refine lv_bipush (v := 84) hx hb dL_checks_126 (by decide) ?_
            refine callSI (rest := []) F (c_some l G (sW G q n nc t fl fd k wd wf wa cd cf) (z0 >>> (6 &&& 31)) 84 (by decide)) gL_checks_L_some rfl hdL_some ⟨Nat.le_of_ble_eq_true rfl, Nat.le_of_ble_eq_true rfl⟩ ([] : va_W) ([] : va_W) hH (by simp only [List.nil_append, List.append_nil]) rfl hl.1 (Nat.le_of_ble_eq_true rfl) dL_checks_128 ⟨(Nat.le_of_ble_eq_true rfl), (Nat.le_of_ble_eq_true rfl)⟩ rfl (fun u H locs hH => ?_)
            rw [List.nil_append, List.append_nil] at hH
            have hH : HH G A s (sW G q n nc t fl fd k wd wf wa cd cf) H locs := hH
            refine lv_iconst (v := 2) hx hb dL_checks_131 (by decide) ?_
            refine lv_isub hx hb dL_checks_132 ?_
            refine lv_goto (tgt := 145) hx hb dL_checks_133 (by decide) ?_
            refine W.widen (k := 0 + 0 + 0) (n := 0 + 0 + 0) (Nat.le_of_ble_eq_true rfl) (Nat.le_of_ble_eq_true rfl) ?_
            exact j145 _ _ _ _ hH (lv_sub hl [0, 1, 2, 3, 4, 5, 6, 7, 8, 9] rfl)
        refine lv_if_lt (tgt := 111) hx hb dL_checks_101 (by decide) (fun c_101 => ?_) (fun c_101 => ?_)
        · refine lv_iconst (v := 1) hx hb dL_checks_111 (by decide) ?_
          refine lv_goto (tgt := 116) hx hb dL_checks_112 (by decide) ?_
          exact j116 1 (Or.inl ⟨rfl, Or.inl c_101⟩) _ _ _ hH (lv_sub hl [0, 1, 2, 3, 4, 5, 6, 7, 8] rfl)
        · refine lv_iload hx hb dL_checks_104 (lv_at hl 0 rfl) ?_
          refine lv_iload hx hb dL_checks_106 (lv_at hl 4 rfl) ?_
          refine lv_icmp_lt (tgt := 115) hx hb dL_checks_108 (by decide) (fun c_108 => ?_) (fun c_108 => ?_)
          · refine lv_iconst (v := 0) hx hb dL_checks_115 (by decide) ?_
            exact j116 0 (Or.inr ⟨rfl, inR (by omega) c_101 c_108⟩) _ _ _ hH (lv_sub hl [0, 1, 2, 3, 4, 5, 6, 7, 8] rfl)
          · refine lv_iconst (v := 1) hx hb dL_checks_111 (by decide) ?_
            refine lv_goto (tgt := 116) hx hb dL_checks_112 (by decide) ?_
            exact j116 1 (Or.inl ⟨rfl, Or.inr (i_le c_108)⟩) _ _ _ hH (lv_sub hl [0, 1, 2, 3, 4, 5, 6, 7, 8] rfl)
      refine lv_if_eq (tgt := 82) hx hb dL_checks_66 (by decide) (fun c_66 => ?_) (fun c_66 => ?_)
      · refine lv_iload_n hx hb dL_checks_82 rfl (lv_at hl 5 rfl) ?_
        refine lv_iload hx hb dL_checks_83 (lv_at hl 3 rfl) ?_
        refine lv_if_ne (tgt := 92) hx hb dL_checks_85 (by decide) (fun c_85 => ?_) (fun c_85 => ?_)
        · refine lv_iload hx hb dL_checks_92 (lv_at hl 3 rfl) ?_
          refine callSI (rest := []) F (c_some l G (sW G q n nc t fl fd k wd wf wa cd cf) x0 (nI n) c_85) gL_checks_L_some rfl hdL_some ⟨Nat.le_of_ble_eq_true rfl, Nat.le_of_ble_eq_true rfl⟩ ([] : va_W) ([] : va_W) hH (by simp only [List.nil_append, List.append_nil]) rfl hl.1 (Nat.le_of_ble_eq_true rfl) dL_checks_94 ⟨(Nat.le_of_ble_eq_true rfl), (Nat.le_of_ble_eq_true rfl)⟩ rfl (fun u H locs hH => ?_)
          rw [List.nil_append, List.append_nil] at hH
          have hH : HH G A s (sW G q n nc t fl fd k wd wf wa cd cf) H locs := hH
          refine W.widen (k := 0 + 0 + 0) (n := 0 + 0 + 0) (Nat.le_of_ble_eq_true rfl) (Nat.le_of_ble_eq_true rfl) ?_
          exact j97 _ _ _ _ hH (lv_sub hl [0, 1, 2, 3, 4, 5, 6, 7] rfl)
        · refine lv_iconst (v := 1) hx hb dL_checks_88 (by decide) ?_
          refine lv_goto (tgt := 94) hx hb dL_checks_89 (by decide) ?_
          refine callSI (rest := []) F (c_some l G (sW G q n nc t fl fd k wd wf wa cd cf) x0 1 (by decide)) gL_checks_L_some rfl hdL_some ⟨Nat.le_of_ble_eq_true rfl, Nat.le_of_ble_eq_true rfl⟩ ([] : va_W) ([] : va_W) hH (by simp only [List.nil_append, List.append_nil]) rfl hl.1 (Nat.le_of_ble_eq_true rfl) dL_checks_94 ⟨(Nat.le_of_ble_eq_true rfl), (Nat.le_of_ble_eq_true rfl)⟩ rfl (fun u H locs hH => ?_)
          rw [List.nil_append, List.append_nil] at hH
          have hH : HH G A s (sW G q n nc t fl fd k wd wf wa cd cf) H locs := hH
          refine W.widen (k := 0 + 0 + 0) (n := 0 + 0 + 0) (Nat.le_of_ble_eq_true rfl) (Nat.le_of_ble_eq_true rfl) ?_
          exact j97 _ _ _ _ hH (lv_sub hl [0, 1, 2, 3, 4, 5, 6, 7] rfl)
      · refine lv_iload_n hx hb dL_checks_69 rfl (lv_at hl 5 rfl) ?_
        refine lv_iload hx hb dL_checks_70 (lv_at hl 3 rfl) ?_
        refine lv_iconst (v := 2) hx hb dL_checks_72 (by decide) ?_
        refine lv_iadd hx hb dL_checks_73 ?_
        refine callSI (rest := []) F (c_some l G (sW G q n nc t fl fd k wd wf wa cd cf) x0 (nI n + 2) (nI_add2_ne (by omega) 2 (by decide) (by decide))) gL_checks_L_some rfl hdL_some ⟨Nat.le_of_ble_eq_true rfl, Nat.le_of_ble_eq_true rfl⟩ ([] : va_W) ([] : va_W) hH (by simp only [List.nil_append, List.append_nil]) rfl hl.1 (Nat.le_of_ble_eq_true rfl) dL_checks_74 ⟨(Nat.le_of_ble_eq_true rfl), (Nat.le_of_ble_eq_true rfl)⟩ rfl (fun u H locs hH => ?_)
        rw [List.nil_append, List.append_nil] at hH
        have hH : HH G A s (sW G q n nc t fl fd k wd wf wa cd cf) H locs := hH
        refine lv_iconst (v := 1) hx hb dL_checks_77 (by decide) ?_
        refine lv_isub hx hb dL_checks_78 ?_
        refine lv_goto (tgt := 97) hx hb dL_checks_79 (by decide) ?_
        refine W.widen (k := 0 + 0 + 0) (n := 0 + 0 + 0) (Nat.le_of_ble_eq_true rfl) (Nat.le_of_ble_eq_true rfl) ?_
        exact j97 _ _ _ _ hH (lv_sub hl [0, 1, 2, 3, 4, 5, 6, 7] rfl)
    refine lv_if_lt (tgt := 62) hx hb dL_checks_48 (by decide) (fun c_48 => ?_) (fun c_48 => ?_)
    · refine lv_iconst (v := 0) hx hb dL_checks_62 (by decide) ?_
      exact j63 0 (Or.inl ⟨rfl, Or.inl c_48⟩) _ _ _ hH (lv_sub hl [0, 1, 2, 3, 4, 5, 6] rfl)
    · refine lv_iload hx hb dL_checks_51 (lv_at hl 0 rfl) ?_
      refine lv_iload hx hb dL_checks_53 (lv_at hl 1 rfl) ?_
      refine lv_icmp_ge (tgt := 62) hx hb dL_checks_55 (by decide) (fun c_55 => ?_) (fun c_55 => ?_)
      · refine lv_iconst (v := 0) hx hb dL_checks_62 (by decide) ?_
        exact j63 0 (Or.inl ⟨rfl, Or.inr c_55⟩) _ _ _ hH (lv_sub hl [0, 1, 2, 3, 4, 5, 6] rfl)
      · refine lv_iconst (v := 1) hx hb dL_checks_58 (by decide) ?_
        refine lv_goto (tgt := 63) hx hb dL_checks_59 (by decide) ?_
        exact j63 1 (Or.inr ⟨rfl, inR (by omega) c_48 (i_lt c_55)⟩) _ _ _ hH (lv_sub hl [0, 1, 2, 3, 4, 5, 6] rfl)
  refine lv_if_eq (tgt := 29) hx hb dL_checks_13 (by decide) (fun c_13 => ?_) (fun c_13 => ?_)
  · refine lv_iload hx hb dL_checks_29 (lv_at hl 0 rfl) ?_
    refine lv_if_ne (tgt := 38) hx hb dL_checks_31 (by decide) (fun c_31 => ?_) (fun c_31 => ?_)
    · refine lv_iload_n hx hb dL_checks_38 rfl (lv_at hl 4 rfl) ?_
      refine lv_iload hx hb dL_checks_39 (lv_at hl 0 rfl) ?_
      refine callSI (rest := []) F (c_some l G (sW G q n nc t fl fd k wd wf wa cd cf) z0 (nI t) c_31) gL_checks_L_some rfl hdL_some ⟨Nat.le_of_ble_eq_true rfl, Nat.le_of_ble_eq_true rfl⟩ ([] : va_W) ([] : va_W) hH (by simp only [List.nil_append, List.append_nil]) rfl hl.1 (Nat.le_of_ble_eq_true rfl) dL_checks_41 ⟨(Nat.le_of_ble_eq_true rfl), (Nat.le_of_ble_eq_true rfl)⟩ rfl (fun u H locs hH => ?_)
      rw [List.nil_append, List.append_nil] at hH
      have hH : HH G A s (sW G q n nc t fl fd k wd wf wa cd cf) H locs := hH
      refine W.widen (k := 0 + 0 + 0) (n := 0 + 0 + 0) (Nat.le_of_ble_eq_true rfl) (Nat.le_of_ble_eq_true rfl) ?_
      exact j44 _ _ _ _ hH (lv_sub hl [0, 1, 2, 3, 4, 5] rfl)
    · refine lv_iconst (v := 0) hx hb dL_checks_34 (by decide) ?_
      refine lv_goto (tgt := 44) hx hb dL_checks_35 (by decide) ?_
      exact j44 _ _ _ _ hH (lv_sub hl [0, 1, 2, 3, 4, 5] rfl)
  · refine lv_iload_n hx hb dL_checks_16 rfl (lv_at hl 4 rfl) ?_
    refine lv_iload hx hb dL_checks_17 (lv_at hl 0 rfl) ?_
    refine lv_iconst (v := 3) hx hb dL_checks_19 (by decide) ?_
    refine lv_iadd hx hb dL_checks_20 ?_
    refine callSI (rest := []) F (c_some l G (sW G q n nc t fl fd k wd wf wa cd cf) z0 (nI t + 3) (nI_add2_ne (by omega) 3 (by decide) (by decide))) gL_checks_L_some rfl hdL_some ⟨Nat.le_of_ble_eq_true rfl, Nat.le_of_ble_eq_true rfl⟩ ([] : va_W) ([] : va_W) hH (by simp only [List.nil_append, List.append_nil]) rfl hl.1 (Nat.le_of_ble_eq_true rfl) dL_checks_21 ⟨(Nat.le_of_ble_eq_true rfl), (Nat.le_of_ble_eq_true rfl)⟩ rfl (fun u H locs hH => ?_)
    rw [List.nil_append, List.append_nil] at hH
    have hH : HH G A s (sW G q n nc t fl fd k wd wf wa cd cf) H locs := hH
    refine lv_iconst (v := 1) hx hb dL_checks_24 (by decide) ?_
    refine lv_isub hx hb dL_checks_25 ?_
    refine lv_goto (tgt := 44) hx hb dL_checks_26 (by decide) ?_
    refine W.widen (k := 0 + 0 + 0) (n := 0 + 0 + 0) (Nat.le_of_ble_eq_true rfl) (Nat.le_of_ble_eq_true rfl) ?_
    exact j44 _ _ _ _ hH (lv_sub hl [0, 1, 2, 3, 4, 5] rfl)
