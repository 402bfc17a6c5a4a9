set_option maxHeartbeats 8000000 in
set_option maxRecDepth 100000 in
theorem c_notices (l : Launch) (hst : l.stackTraces = false) (G : Gx) (q : Nat → Nat) (n nc t : Nat) (fl fd : Int32) (k : Nat → Int32) (wd : Nat → Nat → Nat) (wf : Nat → Nat → Int32) (wa : Nat → Nat → Nat → Int32) (cd : Nat → Nat) (cf : Nat → Nat → Int32) (x0 z0 od : Int32) (hI : IN n nc t fl fd k wf wa cf) : MP l yL_notices wsL_notices ({ frames := 10, cells := 4, slots := 24, locals := 240 } : Room) [.ref (q 0), .int x0, .int z0, .int od] G (sW G q n nc t fl fd k wd wf wa cd cf) (PSI G q nc fl) := by
  refine ofMP (cc := cL_notices) (maxL := 19) (ret := (some .boolean)) (by decide) rfl (Nat.le_of_ble_eq_true rfl) (fun p e s m below meth c A ls F hr hnm hH hl => ?_)
  have F : Fx G p s m _ meth c cL_notices 19 wsL_notices RL A := F
  have hx := F.1.1
  have hb := F.1.2.1
  have hl : lv_has ls 19 [(0, .ref (q 0)), (1, .int x0), (2, .int z0), (3, .int od)] := hl
  have hn : n ≤ 8 := hI.1
  have hnc : nc ≤ 10 := hI.2.1
  have ht : t ≤ 201 := hI.2.2.1
  have hW := hI.2.2.2.2.1
  obtain ⟨d, D, hd1, hD, hd2, hd3⟩ := hI.2.2.2.2.2.2
  have hd4 := cntK_le k 201
  refine lv_aload_n hx hb dL_notices_0 rfl (lv_at hl 0 rfl) ?_
  refine callVI (rest := []) F (c_X2_workers l G q n nc t fl fd k wd wf wa cd cf) gL_notices_X2_workers rfl hdX2_workers ⟨Nat.le_of_ble_eq_true rfl, Nat.le_of_ble_eq_true rfl⟩ ([] : va_W) ([] : va_W) hH (by simp only [List.nil_append, List.append_nil]) ⟨0, 2, _, _, rfl, rfl, rfl⟩ rfl hl.1 (Nat.le_of_ble_eq_true rfl) dL_notices_1 ⟨(Nat.le_of_ble_eq_true rfl), (Nat.le_of_ble_eq_true rfl)⟩ rfl (fun u H locs hH => ?_)
  rw [List.nil_append, List.append_nil] at hH
  have hH : HH G A s (sW G q n nc t fl fd k wd wf wa cd cf) H locs := hH
  refine lv_istore (lv' := [(4, .int (nI n)), (0, .ref (q 0)), (1, .int x0), (2, .int z0), (3, .int od)]) hx hb dL_notices_4 hl (by decide) rfl (fun ls hl => ?_)
  refine lv_aload_n hx hb dL_notices_6 rfl (lv_at hl 1 rfl) ?_
  refine callVI (rest := []) F (c_X2_week l G q n nc t fl fd k wd wf wa cd cf) gL_notices_X2_week rfl hdX2_week ⟨Nat.le_of_ble_eq_true rfl, Nat.le_of_ble_eq_true rfl⟩ ([] : va_W) ([] : va_W) hH (by simp only [List.nil_append, List.append_nil]) ⟨0, 2, _, _, rfl, rfl, rfl⟩ rfl hl.1 (Nat.le_of_ble_eq_true rfl) dL_notices_7 ⟨(Nat.le_of_ble_eq_true rfl), (Nat.le_of_ble_eq_true rfl)⟩ rfl (fun u H locs hH => ?_)
  rw [List.nil_append, List.append_nil] at hH
  have hH : HH G A s (sW G q n nc t fl fd k wd wf wa cd cf) H locs := hH
  refine lv_istore (lv' := [(5, .int (nI t)), (4, .int (nI n)), (0, .ref (q 0)), (1, .int x0), (2, .int z0), (3, .int od)]) hx hb dL_notices_10 hl (by decide) rfl (fun ls hl => ?_)
  refine lv_iload_n hx hb dL_notices_12 rfl (lv_at hl 5 rfl) ?_
  have j44 : ∀ (w : Int32) (H : Heap) (locs : List Loc) (ls : Array Slot), HH G A s (sW G q n nc t fl fd k wd wf wa cd cf) H locs → lv_has ls 19 [(5, .int (nI t)), (4, .int (nI n)), (0, .ref (q 0)), (1, .int x0), (2, .int z0), (3, .int od)] → W p l e ({ frames := 10, cells := 4, slots := 24, locals := 240 } : Room) s m [.ref (q 0), .int x0, .int z0, .int od].toArray below meth c H locs (0 + 0 + 0) (0 + 0 + 0) (EnP G A below s [.ref (q 0), .int x0, .int z0, .int od].toArray ({ frames := 10, cells := 4, slots := 24, locals := 240 } : Room) (PSI G q nc fl)) (F0 m 44 ls [.int w]) := by
    intro w H locs ls hH hl
    refine lv_istore (lv' := [(6, .int w), (5, .int (nI t)), (4, .int (nI n)), (0, .ref (q 0)), (1, .int x0), (2, .int z0), (3, .int od)]) hx hb dL_notices_44 hl (by decide) rfl (fun ls hl => ?_)
    refine lv_iload_n hx hb dL_notices_46 rfl (lv_at hl 6 rfl) ?_
    have j73 : ∀ (f : Int32) (H : Heap) (locs : List Loc) (ls : Array Slot), HH G A s (sW G q n nc t fl fd k wd wf wa cd cf) H locs → lv_has ls 19 [(6, .int w), (5, .int (nI t)), (4, .int (nI n)), (0, .ref (q 0)), (1, .int x0), (2, .int z0), (3, .int od)] → W p l e ({ frames := 10, cells := 4, slots := 24, locals := 240 } : Room) s m [.ref (q 0), .int x0, .int z0, .int od].toArray below meth c H locs (0 + 0 + 0) (0 + 0 + 0) (EnP G A below s [.ref (q 0), .int x0, .int z0, .int od].toArray ({ frames := 10, cells := 4, slots := 24, locals := 240 } : Room) (PSI G q nc fl)) (F0 m 73 ls [.int f]) := by
      intro f H locs ls hH hl
      refine lv_istore (lv' := [(7, .int f), (6, .int w), (5, .int (nI t)), (4, .int (nI n)), (0, .ref (q 0)), (1, .int x0), (2, .int z0), (3, .int od)]) hx hb dL_notices_73 hl (by decide) rfl (fun ls hl => ?_)
      refine lv_iload hx hb dL_notices_75 (lv_at hl 0 rfl) ?_
      refine lv_iload_n hx hb dL_notices_77 rfl (lv_at hl 7 rfl) ?_
      have j103 : ∀ (y : Int32) (H : Heap) (locs : List Loc) (ls : Array Slot), HH G A s (sW G q n nc t fl fd k wd wf wa cd cf) H locs → lv_has ls 19 [(7, .int f), (6, .int w), (5, .int (nI t)), (4, .int (nI n)), (0, .ref (q 0)), (1, .int x0), (2, .int z0), (3, .int od)] → W p l e ({ frames := 10, cells := 4, slots := 24, locals := 240 } : Room) s m [.ref (q 0), .int x0, .int z0, .int od].toArray below meth c H locs (0 + 0 + 0) (0 + 0 + 0) (EnP G A below s [.ref (q 0), .int x0, .int z0, .int od].toArray ({ frames := 10, cells := 4, slots := 24, locals := 240 } : Room) (PSI G q nc fl)) (F0 m 103 ls [.int y]) := by
        intro y H locs ls hH hl
        refine lv_istore (lv' := [(8, .int y), (7, .int f), (6, .int w), (5, .int (nI t)), (4, .int (nI n)), (0, .ref (q 0)), (1, .int x0), (2, .int z0), (3, .int od)]) hx hb dL_notices_103 hl (by decide) rfl (fun ls hl => ?_)
        refine lv_iload_n hx hb dL_notices_105 rfl (lv_at hl 8 rfl) ?_
        have j132 : ∀ (hh : Int32) (H : Heap) (locs : List Loc) (ls : Array Slot), HH G A s (sW G q n nc t fl fd k wd wf wa cd cf) H locs → lv_has ls 19 [(8, .int y), (7, .int f), (6, .int w), (5, .int (nI t)), (4, .int (nI n)), (0, .ref (q 0)), (1, .int x0), (2, .int z0), (3, .int od)] → W p l e ({ frames := 10, cells := 4, slots := 24, locals := 240 } : Room) s m [.ref (q 0), .int x0, .int z0, .int od].toArray below meth c H locs (0 + 0 + 0) (0 + 0 + 0) (EnP G A below s [.ref (q 0), .int x0, .int z0, .int od].toArray ({ frames := 10, cells := 4, slots := 24, locals := 240 } : Room) (PSI G q nc fl)) (F0 m 132 ls [.int hh]) := by
          intro hh H locs ls hH hl
          refine lv_istore (lv' := [(9, .int hh), (8, .int y), (7, .int f), (6, .int w), (5, .int (nI t)), (4, .int (nI n)), (0, .ref (q 0)), (1, .int x0), (2, .int z0), (3, .int od)]) hx hb dL_notices_132 hl (by decide) rfl (fun ls hl => ?_)
          refine lv_aload_n hx hb dL_notices_134 rfl (lv_at hl 6 rfl) ?_
          refine callSL (rest := []) F (c_all l G q n nc t fl fd k wd wf wa cd cf hn) gL_notices_L_all rfl hdL_all ⟨Nat.le_of_ble_eq_true rfl, Nat.le_of_ble_eq_true rfl⟩ ([] : va_W) ([] : va_W) hH (by simp only [List.nil_append, List.append_nil]) rfl hl.1 (Nat.le_of_ble_eq_true rfl) dL_notices_135 ⟨(Nat.le_of_ble_eq_true rfl), (Nat.le_of_ble_eq_true rfl)⟩ rfl (fun H locs hH => ?_)
          refine lv_lstore (lv' := [(10, .long (allS n t fd wf wa)), (9, .int hh), (8, .int y), (7, .int f), (6, .int w), (5, .int (nI t)), (4, .int (nI n)), (0, .ref (q 0)), (1, .int x0), (2, .int z0), (3, .int od)]) hx hb dL_notices_138 hl (by decide) rfl (fun ls hl => ?_)
          refine lv_iload hx hb dL_notices_140 (lv_at hl 4 rfl) ?_
          have j157 : ∀ (o : Int32) (ho : (o = 1 ∧ (w < 0 ∨ nI n ≤ w)) ∨ (o = 0 ∧ ∃ i : Nat, i < n ∧ w = nI i)) (H : Heap) (locs : List Loc) (ls : Array Slot), HH G A s (sW G q n nc t fl fd k wd wf wa cd cf) H locs → lv_has ls 19 [(10, .long (allS n t fd wf wa)), (9, .int hh), (8, .int y), (7, .int f), (6, .int w), (5, .int (nI t)), (4, .int (nI n)), (0, .ref (q 0)), (1, .int x0), (2, .int z0), (3, .int od)] → W p l e ({ frames := 10, cells := 4, slots := 24, locals := 240 } : Room) s m [.ref (q 0), .int x0, .int z0, .int od].toArray below meth c H locs (0 + 0 + 0 + 0) (0 + 0 + 0 + 0) (EnP G A below s [.ref (q 0), .int x0, .int z0, .int od].toArray ({ frames := 10, cells := 4, slots := 24, locals := 240 } : Room) (PSI G q nc fl)) (F0 m 157 ls [.int o]) := by
            intro o ho H locs ls hH hl
            refine lv_istore (lv' := [(12, .int o), (10, .long (allS n t fd wf wa)), (9, .int hh), (8, .int y), (7, .int f), (6, .int w), (5, .int (nI t)), (4, .int (nI n)), (0, .ref (q 0)), (1, .int x0), (2, .int z0), (3, .int od)]) hx hb dL_notices_157 hl (by decide) rfl (fun ls hl => ?_)
            refine lv_iload hx hb dL_notices_159 (lv_at hl 4 rfl) ?_
            have j204 : ∀ (bd : Int32) (hbd : (bd = 1 ∧ ((f < 0 ∨ 200 < f) ∨ ((0 ≤ f ∧ f ≤ 200) ∧ (y < f ∨ 200 < y)) ∨ ((0 ≤ f ∧ f ≤ 200 ∧ f ≤ y ∧ y ≤ 200) ∧ (hh < 0 ∨ 40 < hh)))) ∨ (bd = 0 ∧ ∃ xa xb xh : Nat, xa ≤ xb ∧ xb ≤ 200 ∧ xh ≤ 40 ∧ f = nI xa ∧ y = nI xb ∧ hh = nI xh)) (H : Heap) (locs : List Loc) (ls : Array Slot), HH G A s (sW G q n nc t fl fd k wd wf wa cd cf) H locs → lv_has ls 19 [(12, .int o), (10, .long (allS n t fd wf wa)), (9, .int hh), (8, .int y), (7, .int f), (6, .int w), (5, .int (nI t)), (4, .int (nI n)), (0, .ref (q 0)), (1, .int x0), (2, .int z0), (3, .int od)] → W p l e ({ frames := 10, cells := 4, slots := 24, locals := 240 } : Room) s m [.ref (q 0), .int x0, .int z0, .int od].toArray below meth c H locs (0 + 0 + 0 + 0) (0 + 0 + 0 + 0) (EnP G A below s [.ref (q 0), .int x0, .int z0, .int od].toArray ({ frames := 10, cells := 4, slots := 24, locals := 240 } : Room) (PSI G q nc fl)) (F0 m 204 ls [.int bd]) := by
              intro bd hbd H locs ls hH hl
              rcases ho with ⟨ho, hw⟩ | ⟨ho, i, hi, hw⟩
              · subst o
                refine lv_istore (lv' := [(13, .int bd), (12, .int 1), (10, .long (allS n t fd wf wa)), (9, .int hh), (8, .int y), (7, .int f), (6, .int w), (5, .int (nI t)), (4, .int (nI n)), (0, .ref (q 0)), (1, .int x0), (2, .int z0), (3, .int od)]) hx hb dL_notices_204 hl (by decide) rfl (fun ls hl => ?_)
                refine lv_iload hx hb dL_notices_206 (lv_at hl 1 rfl) ?_
                refine lv_if_ne (tgt := 221) hx hb dL_notices_208 (by decide) (fun c_208 => ?_) (fun c_208 => absurd c_208 (by decide))
                refine lv_iconst (v := 0) hx hb dL_notices_221 (by decide) ?_
                refine lv_goto (tgt := 235) hx hb dL_notices_222 (by decide) ?_
                refine lv_istore (lv' := [(14, .int 0), (13, .int bd), (12, .int 1), (10, .long (allS n t fd wf wa)), (9, .int hh), (8, .int y), (7, .int f), (6, .int w), (5, .int (nI t)), (4, .int (nI n)), (0, .ref (q 0)), (1, .int x0), (2, .int z0), (3, .int od)]) hx hb dL_notices_235 hl (by decide) rfl (fun ls hl => ?_)
                refine lv_iload hx hb dL_notices_237 (lv_at hl 2 rfl) ?_
                refine lv_if_ne (tgt := 255) hx hb dL_notices_239 (by decide) (fun c_239 => ?_) (fun c_239 => absurd c_239 (by decide))
                refine lv_iconst (v := 0) hx hb dL_notices_255 (by decide) ?_
                refine lv_goto (tgt := 269) hx hb dL_notices_256 (by decide) ?_
                refine lv_istore (lv' := [(15, .int 0), (14, .int 0), (13, .int bd), (12, .int 1), (10, .long (allS n t fd wf wa)), (9, .int hh), (8, .int y), (7, .int f), (6, .int w), (5, .int (nI t)), (4, .int (nI n)), (0, .ref (q 0)), (1, .int x0), (2, .int z0), (3, .int od)]) hx hb dL_notices_269 hl (by decide) rfl (fun ls hl => ?_)
                refine lv_aload_n hx hb dL_notices_271 rfl (lv_at hl 11 rfl) ?_
                refine lv_iconst (v := 1) hx hb dL_notices_272 (by decide) ?_
                refine lv_iload hx hb dL_notices_273 (lv_at hl 8 rfl) ?_
                refine lv_iload hx hb dL_notices_275 (lv_at hl 7 rfl) ?_
                refine lv_iload hx hb dL_notices_277 (lv_at hl 6 rfl) ?_
                refine lv_iload hx hb dL_notices_279 (lv_at hl 5 rfl) ?_
                refine callLI (rest := []) F (k_notice_0 l hst G q n nc t fl fd k wd wf wa cd cf hn w hw f y hh) gL_notices_L_call rfl hdL_call ⟨Nat.le_of_ble_eq_true rfl, Nat.le_of_ble_eq_true rfl⟩ ([] : va_W) ([] : va_W) hH (by simp only [List.nil_append, List.append_nil]) rfl hl.1 (Nat.le_of_ble_eq_true rfl) dL_notices_281 ⟨(Nat.le_of_ble_eq_true rfl), (Nat.le_of_ble_eq_true rfl)⟩ rfl (fun u H locs hH => ?_)
                rw [List.nil_append, List.append_nil] at hH
                have hH : HH G A s (sW G q n nc t fl fd k wd wf wa cd cf) H locs := hH
                refine lv_istore (lv' := [(16, .int (-61)), (15, .int 0), (14, .int 0), (13, .int bd), (12, .int 1), (10, .long (allS n t fd wf wa)), (9, .int hh), (8, .int y), (7, .int f), (6, .int w), (5, .int (nI t)), (4, .int (nI n)), (0, .ref (q 0)), (1, .int x0), (2, .int z0), (3, .int od)]) hx hb dL_notices_284 hl (by decide) rfl (fun ls hl => ?_)
                refine lv_iload hx hb dL_notices_286 (lv_at hl 0 rfl) ?_
                refine lv_if_ge (tgt := 334) hx hb dL_notices_288 (by decide) (fun c_288 => absurd c_288 (by decide)) (fun c_288 => ?_)
                refine lv_aload_n hx hb dL_notices_291 rfl (lv_at hl 12 rfl) ?_
                refine callSL (rest := []) F (c_all l G q n nc t fl fd k wd wf wa cd cf hn) gL_notices_L_all rfl hdL_all ⟨Nat.le_of_ble_eq_true rfl, Nat.le_of_ble_eq_true rfl⟩ ([] : va_W) ([] : va_W) hH (by simp only [List.nil_append, List.append_nil]) rfl hl.1 (Nat.le_of_ble_eq_true rfl) dL_notices_292 ⟨(Nat.le_of_ble_eq_true rfl), (Nat.le_of_ble_eq_true rfl)⟩ rfl (fun H locs hH => ?_)
                refine lv_lload hx hb dL_notices_295 (lv_at hl 5 rfl) ?_
                refine W.lcmp hx hb dL_notices_297 ?_
                refine lv_if_ne (tgt := 332) hx hb dL_notices_298 (by decide) (fun c_298 => absurd (lg_self _) c_298) (fun c_298 => ?_)
                refine lv_iload hx hb dL_notices_301 (lv_at hl 0 rfl) ?_
                refine lv_iload hx hb dL_notices_303 (lv_at hl 4 rfl) ?_
                refine lv_if_eq (tgt := 313) hx hb dL_notices_305 (by decide) (fun c_305 => absurd c_305 (by decide)) (fun c_305 => ?_)
                refine lv_bipush (v := (-61)) hx hb dL_notices_308 (by decide) ?_
                refine lv_goto (tgt := 325) hx hb dL_notices_310 (by decide) ?_
                refine lv_icmp_ne (tgt := 332) hx hb dL_notices_325 (by decide) (fun c_325 => absurd rfl c_325) (fun c_325 => ?_)
                refine lv_iconst (v := 1) hx hb dL_notices_328 (by decide) ?_
                refine lv_goto (tgt := 333) hx hb dL_notices_329 (by decide) ?_
                exact retP F hr rfl hH (PSI_mk hI) (Nat.le_of_ble_eq_true rfl) (Nat.le_of_ble_eq_true rfl) dL_notices_333
              · subst o w
                obtain ⟨cn, hcn, e8⟩ := (hW i hi).2.1
                rcases hbd with ⟨hbd, hB⟩ | ⟨hbd, xa, xb, xh, hab, hxb, hxh, hf, hy, hhh⟩
                · subst bd
                  refine lv_istore (lv' := [(13, .int 1), (12, .int 0), (10, .long (allS n t fd wf wa)), (9, .int hh), (8, .int y), (7, .int f), (6, .int (nI i)), (5, .int (nI t)), (4, .int (nI n)), (0, .ref (q 0)), (1, .int x0), (2, .int z0), (3, .int od)]) hx hb dL_notices_204 hl (by decide) rfl (fun ls hl => ?_)
                  refine lv_iload hx hb dL_notices_206 (lv_at hl 1 rfl) ?_
                  refine lv_if_ne (tgt := 221) hx hb dL_notices_208 (by decide) (fun c_208 => absurd rfl c_208) (fun c_208 => ?_)
                  refine lv_iload hx hb dL_notices_211 (lv_at hl 0 rfl) ?_
                  refine lv_if_ne (tgt := 221) hx hb dL_notices_213 (by decide) (fun c_213 => ?_) (fun c_213 => absurd c_213 (by decide))
                  refine lv_iconst (v := 0) hx hb dL_notices_221 (by decide) ?_
                  refine lv_goto (tgt := 235) hx hb dL_notices_222 (by decide) ?_
                  refine lv_istore (lv' := [(14, .int 0), (13, .int 1), (12, .int 0), (10, .long (allS n t fd wf wa)), (9, .int hh), (8, .int y), (7, .int f), (6, .int (nI i)), (5, .int (nI t)), (4, .int (nI n)), (0, .ref (q 0)), (1, .int x0), (2, .int z0), (3, .int od)]) hx hb dL_notices_235 hl (by decide) rfl (fun ls hl => ?_)
                  refine lv_iload hx hb dL_notices_237 (lv_at hl 2 rfl) ?_
                  refine lv_if_ne (tgt := 255) hx hb dL_notices_239 (by decide) (fun c_239 => absurd rfl c_239) (fun c_239 => ?_)
                  refine lv_iload hx hb dL_notices_242 (lv_at hl 1 rfl) ?_
                  refine lv_if_ne (tgt := 255) hx hb dL_notices_244 (by decide) (fun c_244 => ?_) (fun c_244 => absurd c_244 (by decide))
                  refine lv_iconst (v := 0) hx hb dL_notices_255 (by decide) ?_
                  refine lv_goto (tgt := 269) hx hb dL_notices_256 (by decide) ?_
                  refine lv_istore (lv' := [(15, .int 0), (14, .int 0), (13, .int 1), (12, .int 0), (10, .long (allS n t fd wf wa)), (9, .int hh), (8, .int y), (7, .int f), (6, .int (nI i)), (5, .int (nI t)), (4, .int (nI n)), (0, .ref (q 0)), (1, .int x0), (2, .int z0), (3, .int od)]) hx hb dL_notices_269 hl (by decide) rfl (fun ls hl => ?_)
                  refine lv_aload_n hx hb dL_notices_271 rfl (lv_at hl 11 rfl) ?_
                  refine lv_iconst (v := 1) hx hb dL_notices_272 (by decide) ?_
                  refine lv_iload hx hb dL_notices_273 (lv_at hl 8 rfl) ?_
                  refine lv_iload hx hb dL_notices_275 (lv_at hl 7 rfl) ?_
                  refine lv_iload hx hb dL_notices_277 (lv_at hl 6 rfl) ?_
                  refine lv_iload hx hb dL_notices_279 (lv_at hl 5 rfl) ?_
                  refine callLI (rest := []) F (k_notice_2 l hst G q n nc t fl fd k wd wf wa cd cf hn i hi f y hh hB) gL_notices_L_call rfl hdL_call ⟨Nat.le_of_ble_eq_true rfl, Nat.le_of_ble_eq_true rfl⟩ ([] : va_W) ([] : va_W) hH (by simp only [List.nil_append, List.append_nil]) rfl hl.1 (Nat.le_of_ble_eq_true rfl) dL_notices_281 ⟨(Nat.le_of_ble_eq_true rfl), (Nat.le_of_ble_eq_true rfl)⟩ rfl (fun u H locs hH => ?_)
                  rw [List.nil_append, List.append_nil] at hH
                  have hH : HH G A s (sW G q n nc t fl fd k wd wf wa cd cf) H locs := hH
                  refine lv_istore (lv' := [(16, .int (-62)), (15, .int 0), (14, .int 0), (13, .int 1), (12, .int 0), (10, .long (allS n t fd wf wa)), (9, .int hh), (8, .int y), (7, .int f), (6, .int (nI i)), (5, .int (nI t)), (4, .int (nI n)), (0, .ref (q 0)), (1, .int x0), (2, .int z0), (3, .int od)]) hx hb dL_notices_284 hl (by decide) rfl (fun ls hl => ?_)
                  refine lv_iload hx hb dL_notices_286 (lv_at hl 0 rfl) ?_
                  refine lv_if_ge (tgt := 334) hx hb dL_notices_288 (by decide) (fun c_288 => absurd c_288 (by decide)) (fun c_288 => ?_)
                  refine lv_aload_n hx hb dL_notices_291 rfl (lv_at hl 12 rfl) ?_
                  refine callSL (rest := []) F (c_all l G q n nc t fl fd k wd wf wa cd cf hn) gL_notices_L_all rfl hdL_all ⟨Nat.le_of_ble_eq_true rfl, Nat.le_of_ble_eq_true rfl⟩ ([] : va_W) ([] : va_W) hH (by simp only [List.nil_append, List.append_nil]) rfl hl.1 (Nat.le_of_ble_eq_true rfl) dL_notices_292 ⟨(Nat.le_of_ble_eq_true rfl), (Nat.le_of_ble_eq_true rfl)⟩ rfl (fun H locs hH => ?_)
                  refine lv_lload hx hb dL_notices_295 (lv_at hl 5 rfl) ?_
                  refine W.lcmp hx hb dL_notices_297 ?_
                  refine lv_if_ne (tgt := 332) hx hb dL_notices_298 (by decide) (fun c_298 => absurd (lg_self _) c_298) (fun c_298 => ?_)
                  refine lv_iload hx hb dL_notices_301 (lv_at hl 0 rfl) ?_
                  refine lv_iload hx hb dL_notices_303 (lv_at hl 4 rfl) ?_
                  refine lv_if_eq (tgt := 313) hx hb dL_notices_305 (by decide) (fun c_305 => ?_) (fun c_305 => absurd rfl c_305)
                  refine lv_iload hx hb dL_notices_313 (lv_at hl 3 rfl) ?_
                  refine lv_if_eq (tgt := 323) hx hb dL_notices_315 (by decide) (fun c_315 => absurd c_315 (by decide)) (fun c_315 => ?_)
                  refine lv_bipush (v := (-62)) hx hb dL_notices_318 (by decide) ?_
                  refine lv_goto (tgt := 325) hx hb dL_notices_320 (by decide) ?_
                  refine lv_icmp_ne (tgt := 332) hx hb dL_notices_325 (by decide) (fun c_325 => absurd rfl c_325) (fun c_325 => ?_)
                  refine lv_iconst (v := 1) hx hb dL_notices_328 (by decide) ?_
                  refine lv_goto (tgt := 333) hx hb dL_notices_329 (by decide) ?_
                  exact retP F hr rfl hH (PSI_mk hI) (Nat.le_of_ble_eq_true rfl) (Nat.le_of_ble_eq_true rfl) dL_notices_333
                · subst bd f y hh
                  refine lv_istore (lv' := [(13, .int 0), (12, .int 0), (10, .long (allS n t fd wf wa)), (9, .int (nI xh)), (8, .int (nI xb)), (7, .int (nI xa)), (6, .int (nI i)), (5, .int (nI t)), (4, .int (nI n)), (0, .ref (q 0)), (1, .int x0), (2, .int z0), (3, .int od)]) hx hb dL_notices_204 hl (by decide) rfl (fun ls hl => ?_)
                  refine lv_iload hx hb dL_notices_206 (lv_at hl 1 rfl) ?_
                  refine lv_if_ne (tgt := 221) hx hb dL_notices_208 (by decide) (fun c_208 => absurd rfl c_208) (fun c_208 => ?_)
                  refine lv_iload hx hb dL_notices_211 (lv_at hl 0 rfl) ?_
                  refine lv_if_ne (tgt := 221) hx hb dL_notices_213 (by decide) (fun c_213 => absurd rfl c_213) (fun c_213 => ?_)
                  refine lv_iload hx hb dL_notices_216 (lv_at hl 5 rfl) ?_
                  have j235 : ∀ (v14 : Int32) (h14 : 1 ≤ xa → v14 = wa i 2 (xa - 1)) (H : Heap) (locs : List Loc) (ls : Array Slot), HH G A s (sW G q n nc t fl fd k wd wf wa cd cf) H locs → lv_has ls 19 [(13, .int 0), (12, .int 0), (10, .long (allS n t fd wf wa)), (9, .int (nI xh)), (8, .int (nI xb)), (7, .int (nI xa)), (6, .int (nI i)), (5, .int (nI t)), (4, .int (nI n)), (0, .ref (q 0)), (1, .int x0), (2, .int z0), (3, .int od)] → W p l e ({ frames := 10, cells := 4, slots := 24, locals := 240 } : Room) s m [.ref (q 0), .int x0, .int z0, .int od].toArray below meth c H locs (0 + 0 + 0 + 0) (0 + 0 + 0 + 0) (EnP G A below s [.ref (q 0), .int x0, .int z0, .int od].toArray ({ frames := 10, cells := 4, slots := 24, locals := 240 } : Room) (PSI G q nc fl)) (F0 m 235 ls [.int v14]) := by
                    intro v14 h14 H locs ls hH hl
                    refine lv_istore (lv' := [(14, .int v14), (13, .int 0), (12, .int 0), (10, .long (allS n t fd wf wa)), (9, .int (nI xh)), (8, .int (nI xb)), (7, .int (nI xa)), (6, .int (nI i)), (5, .int (nI t)), (4, .int (nI n)), (0, .ref (q 0)), (1, .int x0), (2, .int z0), (3, .int od)]) hx hb dL_notices_235 hl (by decide) rfl (fun ls hl => ?_)
                    refine lv_iload hx hb dL_notices_237 (lv_at hl 2 rfl) ?_
                    refine lv_if_ne (tgt := 255) hx hb dL_notices_239 (by decide) (fun c_239 => absurd rfl c_239) (fun c_239 => ?_)
                    refine lv_iload hx hb dL_notices_242 (lv_at hl 1 rfl) ?_
                    refine lv_if_ne (tgt := 255) hx hb dL_notices_244 (by decide) (fun c_244 => absurd rfl c_244) (fun c_244 => ?_)
                    refine lv_iload hx hb dL_notices_247 (lv_at hl 5 rfl) ?_
                    refine lv_sipush (v := 200) hx hb dL_notices_249 (by decide) ?_
                    have j269 : ∀ (v15 : Int32) (h15 : ¬ xb = 200 → v15 = wa i 2 (xb + 1)) (H : Heap) (locs : List Loc) (ls : Array Slot), HH G A s (sW G q n nc t fl fd k wd wf wa cd cf) H locs → lv_has ls 19 [(14, .int v14), (13, .int 0), (12, .int 0), (10, .long (allS n t fd wf wa)), (9, .int (nI xh)), (8, .int (nI xb)), (7, .int (nI xa)), (6, .int (nI i)), (5, .int (nI t)), (4, .int (nI n)), (0, .ref (q 0)), (1, .int x0), (2, .int z0), (3, .int od)] → W p l e ({ frames := 10, cells := 4, slots := 24, locals := 240 } : Room) s m [.ref (q 0), .int x0, .int z0, .int od].toArray below meth c H locs (0 + 0 + 0 + 0) (0 + 0 + 0 + 0) (EnP G A below s [.ref (q 0), .int x0, .int z0, .int od].toArray ({ frames := 10, cells := 4, slots := 24, locals := 240 } : Room) (PSI G q nc fl)) (F0 m 269 ls [.int v15]) := by
                      intro v15 h15 H locs ls hH hl
                      by_cases hz : xa < t + 2 ∨ cn = 30
                      · refine lv_istore (lv' := [(15, .int v15), (14, .int v14), (13, .int 0), (12, .int 0), (10, .long (allS n t fd wf wa)), (9, .int (nI xh)), (8, .int (nI xb)), (7, .int (nI xa)), (6, .int (nI i)), (5, .int (nI t)), (4, .int (nI n)), (0, .ref (q 0)), (1, .int x0), (2, .int z0), (3, .int od)]) hx hb dL_notices_269 hl (by decide) rfl (fun ls hl => ?_)
                        refine lv_aload_n hx hb dL_notices_271 rfl (lv_at hl 11 rfl) ?_
                        refine lv_iconst (v := 1) hx hb dL_notices_272 (by decide) ?_
                        refine lv_iload hx hb dL_notices_273 (lv_at hl 8 rfl) ?_
                        refine lv_iload hx hb dL_notices_275 (lv_at hl 7 rfl) ?_
                        refine lv_iload hx hb dL_notices_277 (lv_at hl 6 rfl) ?_
                        refine lv_iload hx hb dL_notices_279 (lv_at hl 5 rfl) ?_
                        refine callLI (rest := []) F (k_notice_3 l hst G q n nc t fl fd k wd wf wa cd cf hn i hi ht cn e8 hcn xa xb hab hxb (nI xh) (nI_0le (by omega)) (nI_le (b := 40) hxh (by decide)) hz) gL_notices_L_call rfl hdL_call ⟨Nat.le_of_ble_eq_true rfl, Nat.le_of_ble_eq_true rfl⟩ ([] : va_W) ([] : va_W) hH (by simp only [List.nil_append, List.append_nil]) rfl hl.1 (Nat.le_of_ble_eq_true rfl) dL_notices_281 ⟨(Nat.le_of_ble_eq_true rfl), (Nat.le_of_ble_eq_true rfl)⟩ rfl (fun u H locs hH => ?_)
                        rw [List.nil_append, List.append_nil] at hH
                        have hH : HH G A s (sW G q n nc t fl fd k wd wf wa cd cf) H locs := hH
                        refine lv_istore (lv' := [(16, .int (-63)), (15, .int v15), (14, .int v14), (13, .int 0), (12, .int 0), (10, .long (allS n t fd wf wa)), (9, .int (nI xh)), (8, .int (nI xb)), (7, .int (nI xa)), (6, .int (nI i)), (5, .int (nI t)), (4, .int (nI n)), (0, .ref (q 0)), (1, .int x0), (2, .int z0), (3, .int od)]) hx hb dL_notices_284 hl (by decide) rfl (fun ls hl => ?_)
                        refine lv_iload hx hb dL_notices_286 (lv_at hl 0 rfl) ?_
                        refine lv_if_ge (tgt := 334) hx hb dL_notices_288 (by decide) (fun c_288 => absurd c_288 (by decide)) (fun c_288 => ?_)
                        refine lv_aload_n hx hb dL_notices_291 rfl (lv_at hl 12 rfl) ?_
                        refine callSL (rest := []) F (c_all l G q n nc t fl fd k wd wf wa cd cf hn) gL_notices_L_all rfl hdL_all ⟨Nat.le_of_ble_eq_true rfl, Nat.le_of_ble_eq_true rfl⟩ ([] : va_W) ([] : va_W) hH (by simp only [List.nil_append, List.append_nil]) rfl hl.1 (Nat.le_of_ble_eq_true rfl) dL_notices_292 ⟨(Nat.le_of_ble_eq_true rfl), (Nat.le_of_ble_eq_true rfl)⟩ rfl (fun H locs hH => ?_)
                        refine lv_lload hx hb dL_notices_295 (lv_at hl 5 rfl) ?_
                        refine W.lcmp hx hb dL_notices_297 ?_
                        refine lv_if_ne (tgt := 332) hx hb dL_notices_298 (by decide) (fun c_298 => absurd (lg_self _) c_298) (fun c_298 => ?_)
                        refine lv_iload hx hb dL_notices_301 (lv_at hl 0 rfl) ?_
                        refine lv_iload hx hb dL_notices_303 (lv_at hl 4 rfl) ?_
                        refine lv_if_eq (tgt := 313) hx hb dL_notices_305 (by decide) (fun c_305 => ?_) (fun c_305 => absurd rfl c_305)
                        refine lv_iload hx hb dL_notices_313 (lv_at hl 3 rfl) ?_
                        refine lv_if_eq (tgt := 323) hx hb dL_notices_315 (by decide) (fun c_315 => ?_) (fun c_315 => absurd rfl c_315)
                        refine lv_bipush (v := (-63)) hx hb dL_notices_323 (by decide) ?_
                        refine lv_icmp_ne (tgt := 332) hx hb dL_notices_325 (by decide) (fun c_325 => absurd rfl c_325) (fun c_325 => ?_)
                        refine lv_iconst (v := 1) hx hb dL_notices_328 (by decide) ?_
                        refine lv_goto (tgt := 333) hx hb dL_notices_329 (by decide) ?_
                        exact retP F hr rfl hH (PSI_mk hI) (Nat.le_of_ble_eq_true rfl) (Nat.le_of_ble_eq_true rfl) dL_notices_333
                      · have htx : t + 2 ≤ xa := by omega
                        have hcn : cn < 30 := by omega
                        refine lv_istore (lv' := [(15, .int v15), (14, .int v14), (13, .int 0), (12, .int 0), (10, .long (allS n t fd wf wa)), (9, .int (nI xh)), (8, .int (nI xb)), (7, .int (nI xa)), (6, .int (nI i)), (5, .int (nI t)), (4, .int (nI n)), (0, .ref (q 0)), (1, .int x0), (2, .int z0), (3, .int od)]) hx hb dL_notices_269 hl (by decide) rfl (fun ls hl => ?_)
                        refine lv_aload_n hx hb dL_notices_271 rfl (lv_at hl 11 rfl) ?_
                        refine lv_iconst (v := 1) hx hb dL_notices_272 (by decide) ?_
                        refine lv_iload hx hb dL_notices_273 (lv_at hl 8 rfl) ?_
                        refine lv_iload hx hb dL_notices_275 (lv_at hl 7 rfl) ?_
                        refine lv_iload hx hb dL_notices_277 (lv_at hl 6 rfl) ?_
                        refine lv_iload hx hb dL_notices_279 (lv_at hl 5 rfl) ?_
                        refine callLI (rest := []) F (k_notice_1 l G q n nc t fl fd k wd wf wa cd cf hn i hi ht cn e8 hcn xa xb hab hxb (nI xh) (nI_0le (by omega)) (nI_le (b := 40) hxh (by decide)) htx) gL_notices_L_call rfl hdL_call ⟨Nat.le_of_ble_eq_true rfl, Nat.le_of_ble_eq_true rfl⟩ ([] : va_W) ([] : va_W) hH (by simp only [List.nil_append, List.append_nil]) rfl hl.1 (Nat.le_of_ble_eq_true rfl) dL_notices_281 ⟨(Nat.le_of_ble_eq_true rfl), (Nat.le_of_ble_eq_true rfl)⟩ rfl (fun u H locs hH => ?_)
                        rw [List.nil_append, List.append_nil] at hH
                        have hH : HH G A s (sW G q n nc t fl fd k wd (va_up wf i (va_up (wf i) 8 (wf i 8 + 1))) (va_up wa i (va_up (wa i) 2 (fillR (wa i 2) xa (xb + 1) (nI xh)))) cd cf) H locs := hH
                        have hI2 := IN_notice (y := xb) hI hi e8 hcn htx hxh
                        have hcut : ∀ z9, (va_up wa i (va_up (wa i) 2 (fillR (wa i 2) xa (xb + 1) (nI xh)))) i 2 z9 = fillR (wa i 2) xa (xb + 1) (nI xh) z9 := fun z9 => by rw [va_up_self]; rfl
                        obtain ⟨wf2, hwf2⟩ : ∃ x9, x9 = va_up wf i (va_up (wf i) 8 (wf i 8 + 1)) := ⟨_, rfl⟩
                        obtain ⟨wa2, hwa2⟩ : ∃ x9, x9 = va_up wa i (va_up (wa i) 2 (fillR (wa i 2) xa (xb + 1) (nI xh))) := ⟨_, rfl⟩
                        rw [← hwf2, ← hwa2] at hH hI2
                        rw [← hwa2] at hcut
                        refine lv_istore (lv' := [(16, .int (nI (cn + 1))), (15, .int v15), (14, .int v14), (13, .int 0), (12, .int 0), (10, .long (allS n t fd wf wa)), (9, .int (nI xh)), (8, .int (nI xb)), (7, .int (nI xa)), (6, .int (nI i)), (5, .int (nI t)), (4, .int (nI n)), (0, .ref (q 0)), (1, .int x0), (2, .int z0), (3, .int od)]) hx hb dL_notices_284 hl (by decide) rfl (fun ls hl => ?_)
                        refine lv_iload hx hb dL_notices_286 (lv_at hl 0 rfl) ?_
                        refine lv_if_ge (tgt := 334) hx hb dL_notices_288 (by decide) (fun c_288 => ?_) (fun c_288 => absurd (nI_0le (by omega)) c_288)
                        refine lv_iload hx hb dL_notices_334 (lv_at hl 4 rfl) ?_
                        refine lv_if_ne (tgt := 412) hx hb dL_notices_336 (by decide) (fun c_336 => absurd rfl c_336) (fun c_336 => ?_)
                        refine lv_iload hx hb dL_notices_339 (lv_at hl 3 rfl) ?_
                        refine lv_if_ne (tgt := 412) hx hb dL_notices_341 (by decide) (fun c_341 => absurd rfl c_341) (fun c_341 => ?_)
                        refine lv_iload hx hb dL_notices_344 (lv_at hl 0 rfl) ?_
                        refine lv_if_le (tgt := 412) hx hb dL_notices_346 (by decide) (fun c_346 => absurd c_346 (nI_npos (by omega) (by omega))) (fun c_346 => ?_)
                        refine lv_iload hx hb dL_notices_349 (lv_at hl 0 rfl) ?_
                        refine lv_bipush (v := 31) hx hb dL_notices_351 (by decide) ?_
                        refine lv_icmp_ge (tgt := 412) hx hb dL_notices_353 (by decide) (fun c_353 => absurd c_353 (nI_ge (a := cn + 1) (b := 31) (by omega) (by decide))) (fun c_353 => ?_)
                        refine lv_iload hx hb dL_notices_356 (lv_at hl 8 rfl) ?_
                        refine lv_iload hx hb dL_notices_358 (lv_at hl 10 rfl) ?_
                        refine lv_iconst (v := 2) hx hb dL_notices_360 (by decide) ?_
                        refine lv_iadd hx hb dL_notices_361 ?_
                        refine lv_icmp_lt (tgt := 412) hx hb dL_notices_362 (by decide) (fun c_362 => absurd c_362 (by rw [nI_2]; exact nI_nlt htx (by omega))) (fun c_362 => ?_)
                        refine lv_iload hx hb dL_notices_365 (lv_at hl 8 rfl) ?_
                        have j385 : ∀  (H : Heap) (locs : List Loc) (ls : Array Slot), HH G A s (sW G q n nc t fl fd k wd wf2 wa2 cd cf) H locs → lv_has ls 19 [(16, .int (nI (cn + 1))), (15, .int v15), (14, .int v14), (13, .int 0), (12, .int 0), (10, .long (allS n t fd wf wa)), (9, .int (nI xh)), (8, .int (nI xb)), (7, .int (nI xa)), (6, .int (nI i)), (5, .int (nI t)), (4, .int (nI n)), (0, .ref (q 0)), (1, .int x0), (2, .int z0), (3, .int od)] → W p l e ({ frames := 10, cells := 4, slots := 24, locals := 240 } : Room) s m [.ref (q 0), .int x0, .int z0, .int od].toArray below meth c H locs (0 + 0 + 0 + 0 + 1) (0 + 0 + 0 + 0 + 6) (EnP G A below s [.ref (q 0), .int x0, .int z0, .int od].toArray ({ frames := 10, cells := 4, slots := 24, locals := 240 } : Room) (PSI G q nc fl)) (F0 m 385 ls []) := by
                          intro  H locs ls hH hl
                          refine lv_iload hx hb dL_notices_385 (lv_at hl 7 rfl) ?_
                          refine lv_sipush (v := 200) hx hb dL_notices_387 (by decide) ?_
                          have j408 : ∀  (H : Heap) (locs : List Loc) (ls : Array Slot), HH G A s (sW G q n nc t fl fd k wd wf2 wa2 cd cf) H locs → lv_has ls 19 [(16, .int (nI (cn + 1))), (15, .int v15), (14, .int v14), (13, .int 0), (12, .int 0), (10, .long (allS n t fd wf wa)), (9, .int (nI xh)), (8, .int (nI xb)), (7, .int (nI xa)), (6, .int (nI i)), (5, .int (nI t)), (4, .int (nI n)), (0, .ref (q 0)), (1, .int x0), (2, .int z0), (3, .int od)] → W p l e ({ frames := 10, cells := 4, slots := 24, locals := 240 } : Room) s m [.ref (q 0), .int x0, .int z0, .int od].toArray below meth c H locs (0 + 0 + 0 + 0 + 1) (0 + 0 + 0 + 0 + 6) (EnP G A below s [.ref (q 0), .int x0, .int z0, .int od].toArray ({ frames := 10, cells := 4, slots := 24, locals := 240 } : Room) (PSI G q nc fl)) (F0 m 408 ls []) := by
                            intro  H locs ls hH hl
                            refine lv_iconst (v := 1) hx hb dL_notices_408 (by decide) ?_
                            refine lv_goto (tgt := 413) hx hb dL_notices_409 (by decide) ?_
                            refine lv_istore (lv' := [(17, .int 1), (16, .int (nI (cn + 1))), (15, .int v15), (14, .int v14), (13, .int 0), (12, .int 0), (10, .long (allS n t fd wf wa)), (9, .int (nI xh)), (8, .int (nI xb)), (7, .int (nI xa)), (6, .int (nI i)), (5, .int (nI t)), (4, .int (nI n)), (0, .ref (q 0)), (1, .int x0), (2, .int z0), (3, .int od)]) hx hb dL_notices_413 hl (by decide) rfl (fun ls hl => ?_)
                            refine lv_iload hx hb dL_notices_415 (lv_at hl 9 rfl) ?_
                            refine lv_istore (lv' := [(18, .int (nI xa)), (17, .int 1), (16, .int (nI (cn + 1))), (15, .int v15), (14, .int v14), (13, .int 0), (12, .int 0), (10, .long (allS n t fd wf wa)), (9, .int (nI xh)), (8, .int (nI xb)), (7, .int (nI xa)), (6, .int (nI i)), (5, .int (nI t)), (4, .int (nI n)), (0, .ref (q 0)), (1, .int x0), (2, .int z0), (3, .int od)]) hx hb dL_notices_417 hl (by decide) rfl (fun ls hl => ?_)
                            have lz : ∀ (n_lz : Nat) (z9 : Nat) (hz1 : xa ≤ z9) (hc_lz : z9 + n_lz = xb + 1) (H : Heap) (locs : List Loc) (ls : Array Slot), HH G A s (sW G q n nc t fl fd k wd wf2 wa2 cd cf) H locs → lv_has ls 19 [(18, .int (nI z9)), (17, .int 1), (9, .int (nI xh)), (8, .int (nI xb)), (6, .int (nI i)), (0, .ref (q 0))] → W p l e ({ frames := 10, cells := 4, slots := 24, locals := 240 } : Room) s m [.ref (q 0), .int x0, .int z0, .int od].toArray below meth c H locs (0 + 0 + 0 + 0 + 1) (0 + 0 + 0 + 0 + 6) (EnP G A below s [.ref (q 0), .int x0, .int z0, .int od].toArray ({ frames := 10, cells := 4, slots := 24, locals := 240 } : Room) (PSI G q nc fl)) (F0 m 419 ls []) := by
                              intro n_lz
                              induction n_lz with
                              | zero =>
                                intro z9 hz1 hc_lz H locs ls hH hl
                                refine lv_iload hx hb dL_notices_419 (lv_at hl 0 rfl) ?_
                                refine lv_iload hx hb dL_notices_421 (lv_at hl 3 rfl) ?_
                                refine lv_icmp_gt (tgt := 457) hx hb dL_notices_423 (by decide) (fun c_423 => ?_) (fun c_423 => absurd (nI_lt (by omega) (by omega)) c_423)
                                refine lv_iload hx hb dL_notices_457 (lv_at hl 1 rfl) ?_
                                exact retP F hr rfl hH (PSI_mk hI2) (Nat.le_of_ble_eq_true rfl) (Nat.le_of_ble_eq_true rfl) dL_notices_459
                              | succ n_lz ih_lz =>
                                intro z9 hz1 hc_lz H locs ls hH hl
                                refine lv_iload hx hb dL_notices_419 (lv_at hl 0 rfl) ?_
                                refine lv_iload hx hb dL_notices_421 (lv_at hl 3 rfl) ?_
                                refine lv_icmp_gt (tgt := 457) hx hb dL_notices_423 (by decide) (fun c_423 => absurd c_423 (nI_nlt (by omega) (by omega))) (fun c_423 => ?_)
                                refine lv_iload hx hb dL_notices_426 (lv_at hl 1 rfl) ?_
                                refine lv_if_eq (tgt := 457) hx hb dL_notices_428 (by decide) (fun c_428 => absurd c_428 (by decide)) (fun c_428 => ?_)
                                refine lv_aload_n hx hb dL_notices_431 rfl (lv_at hl 5 rfl) ?_
                                refine lv_iload hx hb dL_notices_432 (lv_at hl 4 rfl) ?_
                                refine lv_iload hx hb dL_notices_434 (lv_at hl 0 rfl) ?_
                                refine callVI (rest := []) F (c_X2_cut_1 l G q n nc t fl fd k wd wf2 wa2 cd cf hn i hi z9 (by omega)) gL_notices_X2_cut rfl hdX2_cut ⟨Nat.le_of_ble_eq_true rfl, Nat.le_of_ble_eq_true rfl⟩ ([] : va_W) ([] : va_W) hH (by simp only [List.nil_append, List.append_nil]) ⟨0, 2, _, _, rfl, rfl, rfl⟩ rfl hl.1 (Nat.le_of_ble_eq_true rfl) dL_notices_436 ⟨(Nat.le_of_ble_eq_true rfl), (Nat.le_of_ble_eq_true rfl)⟩ rfl (fun u H locs hH => ?_)
                                rw [List.nil_append, List.append_nil] at hH
                                have hH : HH G A s (sW G q n nc t fl fd k wd wf2 wa2 cd cf) H locs := hH
                                refine lv_iload hx hb dL_notices_439 (lv_at hl 2 rfl) ?_
                                refine lv_icmp_ne (tgt := 448) hx hb dL_notices_441 (by decide) (fun c_441 => absurd ((hcut z9).trans (fillR_i hz1 (by omega))) c_441) (fun c_441 => ?_)
                                refine lv_iconst (v := 1) hx hb dL_notices_444 (by decide) ?_
                                refine lv_goto (tgt := 449) hx hb dL_notices_445 (by decide) ?_
                                refine lv_istore (lv' := [(17, .int 1), (18, .int (nI z9)), (9, .int (nI xh)), (8, .int (nI xb)), (6, .int (nI i)), (0, .ref (q 0))]) hx hb dL_notices_449 hl (by decide) rfl (fun ls hl => ?_)
                                refine lv_iinc (v := (nI (z9 + 1))) (lv' := [(18, .int (nI (z9 + 1))), (17, .int 1), (9, .int (nI xh)), (8, .int (nI xb)), (6, .int (nI i)), (0, .ref (q 0))]) hx hb dL_notices_451 hl (k := 1) rfl (nI_1 z9) (by decide) rfl (fun ls hl => ?_)
                                refine lv_goto (tgt := 419) hx hb dL_notices_454 (by decide) ?_
                                refine W.widen (k := 0 + 0 + 0 + 0 + 1) (n := 0 + 0 + 0 + 0 + 6) (Nat.le_of_ble_eq_true rfl) (Nat.le_of_ble_eq_true rfl) ?_
                                exact ih_lz (z9 + 1) (by omega) (by omega) _ _ _ hH (lv_sub hl [0, 1, 2, 3, 4, 5] rfl)
                            exact lz (xb + 1 - xa) xa (Nat.le_refl xa) (by omega) _ _ _ hH (lv_sub hl [0, 1, 8, 9, 11, 14] rfl)
                          refine lv_icmp_eq (tgt := 408) hx hb dL_notices_390 (by decide) (fun c_390 => ?_) (fun c_390 => ?_)
                          · exact j408  _ _ _ hH (lv_sub hl [0, 1, 2, 3, 4, 5, 6, 7, 8, 9, 10, 11, 12, 13, 14, 15] rfl)
                          · have hb9 : xb ≠ 200 := fun h9 => c_390 (by rw [h9]; rfl)
                            refine lv_aload_n hx hb dL_notices_393 rfl (lv_at hl 12 rfl) ?_
                            refine lv_iload hx hb dL_notices_394 (lv_at hl 9 rfl) ?_
                            refine lv_iload hx hb dL_notices_396 (lv_at hl 7 rfl) ?_
                            refine lv_iconst (v := 1) hx hb dL_notices_398 (by decide) ?_
                            refine lv_iadd hx hb dL_notices_399 ?_
                            rw [nI_1 xb]
                            refine callVI (rest := []) F (c_X2_cut_1 l G q n nc t fl fd k wd wf2 wa2 cd cf hn i hi (xb + 1) (by omega)) gL_notices_X2_cut rfl hdX2_cut ⟨Nat.le_of_ble_eq_true rfl, Nat.le_of_ble_eq_true rfl⟩ ([] : va_W) ([] : va_W) hH (by simp only [List.nil_append, List.append_nil]) ⟨0, 2, _, _, rfl, rfl, rfl⟩ rfl hl.1 (Nat.le_of_ble_eq_true rfl) dL_notices_400 ⟨(Nat.le_of_ble_eq_true rfl), (Nat.le_of_ble_eq_true rfl)⟩ rfl (fun u H locs hH => ?_)
                            rw [List.nil_append, List.append_nil] at hH
                            have hH : HH G A s (sW G q n nc t fl fd k wd wf2 wa2 cd cf) H locs := hH
                            refine lv_iload hx hb dL_notices_403 (lv_at hl 1 rfl) ?_
                            refine lv_icmp_ne (tgt := 412) hx hb dL_notices_405 (by decide) (fun c_405 => absurd (by rw [h15 hb9, hcut]; exact fillR_o (Or.inr (Nat.le_refl _))) c_405) (fun c_405 => ?_)
                            refine W.widen (k := 0 + 0 + 0 + 0 + 1) (n := 0 + 0 + 0 + 0 + 6) (Nat.le_of_ble_eq_true rfl) (Nat.le_of_ble_eq_true rfl) ?_
                            exact j408  _ _ _ hH (lv_sub hl [0, 1, 2, 3, 4, 5, 6, 7, 8, 9, 10, 11, 12, 13, 14, 15] rfl)
                        refine lv_if_eq (tgt := 385) hx hb dL_notices_367 (by decide) (fun c_367 => ?_) (fun c_367 => ?_)
                        · exact j385  _ _ _ hH (lv_sub hl [0, 1, 2, 3, 4, 5, 6, 7, 8, 9, 10, 11, 12, 13, 14, 15] rfl)
                        · have ha9 : 1 ≤ xa := Nat.pos_of_ne_zero (fun h9 => c_367 (by rw [h9]; rfl))
                          refine lv_aload_n hx hb dL_notices_370 rfl (lv_at hl 12 rfl) ?_
                          refine lv_iload hx hb dL_notices_371 (lv_at hl 9 rfl) ?_
                          refine lv_iload hx hb dL_notices_373 (lv_at hl 8 rfl) ?_
                          refine lv_iconst (v := 1) hx hb dL_notices_375 (by decide) ?_
                          refine lv_isub hx hb dL_notices_376 ?_
                          rw [show nI xa - 1 = nI (xa - 1) from pk_sub (b := 1) (by omega)]
                          refine callVI (rest := []) F (c_X2_cut_1 l G q n nc t fl fd k wd wf2 wa2 cd cf hn i hi (xa - 1) (by omega)) gL_notices_X2_cut rfl hdX2_cut ⟨Nat.le_of_ble_eq_true rfl, Nat.le_of_ble_eq_true rfl⟩ ([] : va_W) ([] : va_W) hH (by simp only [List.nil_append, List.append_nil]) ⟨0, 2, _, _, rfl, rfl, rfl⟩ rfl hl.1 (Nat.le_of_ble_eq_true rfl) dL_notices_377 ⟨(Nat.le_of_ble_eq_true rfl), (Nat.le_of_ble_eq_true rfl)⟩ rfl (fun u H locs hH => ?_)
                          rw [List.nil_append, List.append_nil] at hH
                          have hH : HH G A s (sW G q n nc t fl fd k wd wf2 wa2 cd cf) H locs := hH
                          refine lv_iload hx hb dL_notices_380 (lv_at hl 2 rfl) ?_
                          refine lv_icmp_ne (tgt := 412) hx hb dL_notices_382 (by decide) (fun c_382 => absurd (by rw [h14 ha9, hcut]; exact fillR_o (Or.inl (by omega))) c_382) (fun c_382 => ?_)
                          refine W.widen (k := 0 + 0 + 0 + 0 + 1) (n := 0 + 0 + 0 + 0 + 6) (Nat.le_of_ble_eq_true rfl) (Nat.le_of_ble_eq_true rfl) ?_
                          exact j385  _ _ _ hH (lv_sub hl [0, 1, 2, 3, 4, 5, 6, 7, 8, 9, 10, 11, 12, 13, 14, 15] rfl)
                    refine lv_icmp_ne (tgt := 259) hx hb dL_notices_252 (by decide) (fun c_252 => ?_) (fun c_252 => ?_)
                    · have hb9 : xb ≠ 200 := fun h9 => c_252 (by rw [h9]; rfl)
                      refine lv_aload_n hx hb dL_notices_259 rfl (lv_at hl 10 rfl) ?_
                      refine lv_iload hx hb dL_notices_260 (lv_at hl 7 rfl) ?_
                      refine lv_iload hx hb dL_notices_262 (lv_at hl 5 rfl) ?_
                      refine lv_iconst (v := 1) hx hb dL_notices_264 (by decide) ?_
                      refine lv_iadd hx hb dL_notices_265 ?_
                      rw [nI_1 xb]
                      refine callVI (rest := []) F (c_X2_cut_1 l G q n nc t fl fd k wd wf wa cd cf hn i hi (xb + 1) (by omega)) gL_notices_X2_cut rfl hdX2_cut ⟨Nat.le_of_ble_eq_true rfl, Nat.le_of_ble_eq_true rfl⟩ ([] : va_W) ([] : va_W) hH (by simp only [List.nil_append, List.append_nil]) ⟨0, 2, _, _, rfl, rfl, rfl⟩ rfl hl.1 (Nat.le_of_ble_eq_true rfl) dL_notices_266 ⟨(Nat.le_of_ble_eq_true rfl), (Nat.le_of_ble_eq_true rfl)⟩ rfl (fun u H locs hH => ?_)
                      rw [List.nil_append, List.append_nil] at hH
                      have hH : HH G A s (sW G q n nc t fl fd k wd wf wa cd cf) H locs := hH
                      refine W.widen (k := 0 + 0 + 0 + 0) (n := 0 + 0 + 0 + 0) (Nat.le_of_ble_eq_true rfl) (Nat.le_of_ble_eq_true rfl) ?_
                      exact j269 _ (fun _ => rfl) _ _ _ hH (lv_sub hl [0, 1, 2, 3, 4, 5, 6, 7, 8, 9, 10, 11, 12, 13] rfl)
                    · refine lv_iconst (v := 0) hx hb dL_notices_255 (by decide) ?_
                      refine lv_goto (tgt := 269) hx hb dL_notices_256 (by decide) ?_
                      exact j269 0 (fun h9 => absurd ((nI_eq (b := 200) (by omega) (by omega)).mp c_252) h9) _ _ _ hH (lv_sub hl [0, 1, 2, 3, 4, 5, 6, 7, 8, 9, 10, 11, 12, 13] rfl)
                  refine lv_if_ne (tgt := 225) hx hb dL_notices_218 (by decide) (fun c_218 => ?_) (fun c_218 => ?_)
                  · have ha9 : 1 ≤ xa := Nat.pos_of_ne_zero (fun h9 => c_218 (by rw [h9]; rfl))
                    refine lv_aload_n hx hb dL_notices_225 rfl (lv_at hl 9 rfl) ?_
                    refine lv_iload hx hb dL_notices_226 (lv_at hl 6 rfl) ?_
                    refine lv_iload hx hb dL_notices_228 (lv_at hl 5 rfl) ?_
                    refine lv_iconst (v := 1) hx hb dL_notices_230 (by decide) ?_
                    refine lv_isub hx hb dL_notices_231 ?_
                    rw [show nI xa - 1 = nI (xa - 1) from pk_sub (b := 1) (by omega)]
                    refine callVI (rest := []) F (c_X2_cut_1 l G q n nc t fl fd k wd wf wa cd cf hn i hi (xa - 1) (by omega)) gL_notices_X2_cut rfl hdX2_cut ⟨Nat.le_of_ble_eq_true rfl, Nat.le_of_ble_eq_true rfl⟩ ([] : va_W) ([] : va_W) hH (by simp only [List.nil_append, List.append_nil]) ⟨0, 2, _, _, rfl, rfl, rfl⟩ rfl hl.1 (Nat.le_of_ble_eq_true rfl) dL_notices_232 ⟨(Nat.le_of_ble_eq_true rfl), (Nat.le_of_ble_eq_true rfl)⟩ rfl (fun u H locs hH => ?_)
                    rw [List.nil_append, List.append_nil] at hH
                    have hH : HH G A s (sW G q n nc t fl fd k wd wf wa cd cf) H locs := hH
                    refine W.widen (k := 0 + 0 + 0 + 0) (n := 0 + 0 + 0 + 0) (Nat.le_of_ble_eq_true rfl) (Nat.le_of_ble_eq_true rfl) ?_
                    exact j235 _ (fun _ => rfl) _ _ _ hH (lv_sub hl [0, 1, 2, 3, 4, 5, 6, 7, 8, 9, 10, 11, 12] rfl)
                  · refine lv_iconst (v := 0) hx hb dL_notices_221 (by decide) ?_
                    refine lv_goto (tgt := 235) hx hb dL_notices_222 (by decide) ?_
                    exact j235 0 (fun h9 => absurd c_218 (nI_ne0 h9 (by omega))) _ _ _ hH (lv_sub hl [0, 1, 2, 3, 4, 5, 6, 7, 8, 9, 10, 11, 12] rfl)
            refine lv_if_lt (tgt := 199) hx hb dL_notices_161 (by decide) (fun c_161 => ?_) (fun c_161 => ?_)
            · refine lv_iconst (v := 1) hx hb dL_notices_199 (by decide) ?_
              refine lv_goto (tgt := 204) hx hb dL_notices_200 (by decide) ?_
              exact j204 1 (Or.inl ⟨rfl, Or.inl (Or.inl c_161)⟩) _ _ _ hH (lv_sub hl [0, 1, 2, 3, 4, 5, 6, 7, 8, 9, 10, 11] rfl)
            · refine lv_iload hx hb dL_notices_164 (lv_at hl 4 rfl) ?_
              refine lv_sipush (v := 200) hx hb dL_notices_166 (by decide) ?_
              refine lv_icmp_gt (tgt := 199) hx hb dL_notices_169 (by decide) (fun c_169 => ?_) (fun c_169 => ?_)
              · refine lv_iconst (v := 1) hx hb dL_notices_199 (by decide) ?_
                refine lv_goto (tgt := 204) hx hb dL_notices_200 (by decide) ?_
                exact j204 1 (Or.inl ⟨rfl, Or.inl (Or.inr c_169)⟩) _ _ _ hH (lv_sub hl [0, 1, 2, 3, 4, 5, 6, 7, 8, 9, 10, 11] rfl)
              · refine lv_iload hx hb dL_notices_172 (lv_at hl 3 rfl) ?_
                refine lv_iload hx hb dL_notices_174 (lv_at hl 4 rfl) ?_
                refine lv_icmp_lt (tgt := 199) hx hb dL_notices_176 (by decide) (fun c_176 => ?_) (fun c_176 => ?_)
                · refine lv_iconst (v := 1) hx hb dL_notices_199 (by decide) ?_
                  refine lv_goto (tgt := 204) hx hb dL_notices_200 (by decide) ?_
                  exact j204 1 (Or.inl ⟨rfl, Or.inr (Or.inl ⟨⟨i_le c_161, i_le c_169⟩, Or.inl c_176⟩)⟩) _ _ _ hH (lv_sub hl [0, 1, 2, 3, 4, 5, 6, 7, 8, 9, 10, 11] rfl)
                · refine lv_iload hx hb dL_notices_179 (lv_at hl 3 rfl) ?_
                  refine lv_sipush (v := 200) hx hb dL_notices_181 (by decide) ?_
                  refine lv_icmp_gt (tgt := 199) hx hb dL_notices_184 (by decide) (fun c_184 => ?_) (fun c_184 => ?_)
                  · refine lv_iconst (v := 1) hx hb dL_notices_199 (by decide) ?_
                    refine lv_goto (tgt := 204) hx hb dL_notices_200 (by decide) ?_
                    exact j204 1 (Or.inl ⟨rfl, Or.inr (Or.inl ⟨⟨i_le c_161, i_le c_169⟩, Or.inr c_184⟩)⟩) _ _ _ hH (lv_sub hl [0, 1, 2, 3, 4, 5, 6, 7, 8, 9, 10, 11] rfl)
                  · refine lv_iload hx hb dL_notices_187 (lv_at hl 2 rfl) ?_
                    refine lv_if_lt (tgt := 199) hx hb dL_notices_189 (by decide) (fun c_189 => ?_) (fun c_189 => ?_)
                    · refine lv_iconst (v := 1) hx hb dL_notices_199 (by decide) ?_
                      refine lv_goto (tgt := 204) hx hb dL_notices_200 (by decide) ?_
                      exact j204 1 (Or.inl ⟨rfl, Or.inr (Or.inr ⟨⟨i_le c_161, i_le c_169, i_le c_176, i_le c_184⟩, Or.inl c_189⟩)⟩) _ _ _ hH (lv_sub hl [0, 1, 2, 3, 4, 5, 6, 7, 8, 9, 10, 11] rfl)
                    · refine lv_iload hx hb dL_notices_192 (lv_at hl 2 rfl) ?_
                      refine lv_bipush (v := 40) hx hb dL_notices_194 (by decide) ?_
                      refine lv_icmp_le (tgt := 203) hx hb dL_notices_196 (by decide) (fun c_196 => ?_) (fun c_196 => ?_)
                      · refine lv_iconst (v := 0) hx hb dL_notices_203 (by decide) ?_
                        exact j204 0 (Or.inr ⟨rfl, okN (m := 40) (lo := 0) c_196 (by omega) c_161 c_169 c_176 c_184 c_189 (by decide)⟩) _ _ _ hH (lv_sub hl [0, 1, 2, 3, 4, 5, 6, 7, 8, 9, 10, 11] rfl)
                      · refine lv_iconst (v := 1) hx hb dL_notices_199 (by decide) ?_
                        refine lv_goto (tgt := 204) hx hb dL_notices_200 (by decide) ?_
                        exact j204 1 (Or.inl ⟨rfl, Or.inr (Or.inr ⟨⟨i_le c_161, i_le c_169, i_le c_176, i_le c_184⟩, Or.inr (i_lt c_196)⟩)⟩) _ _ _ hH (lv_sub hl [0, 1, 2, 3, 4, 5, 6, 7, 8, 9, 10, 11] rfl)
          refine lv_if_lt (tgt := 152) hx hb dL_notices_142 (by decide) (fun c_142 => ?_) (fun c_142 => ?_)
          · refine lv_iconst (v := 1) hx hb dL_notices_152 (by decide) ?_
            refine lv_goto (tgt := 157) hx hb dL_notices_153 (by decide) ?_
            exact j157 1 (Or.inl ⟨rfl, Or.inl c_142⟩) _ _ _ hH (lv_sub hl [0, 1, 2, 3, 4, 5, 6, 7, 8, 9, 10] rfl)
          · refine lv_iload hx hb dL_notices_145 (lv_at hl 4 rfl) ?_
            refine lv_iload hx hb dL_notices_147 (lv_at hl 6 rfl) ?_
            refine lv_icmp_lt (tgt := 156) hx hb dL_notices_149 (by decide) (fun c_149 => ?_) (fun c_149 => ?_)
            · refine lv_iconst (v := 0) hx hb dL_notices_156 (by decide) ?_
              exact j157 0 (Or.inr ⟨rfl, inR (by omega) c_142 c_149⟩) _ _ _ hH (lv_sub hl [0, 1, 2, 3, 4, 5, 6, 7, 8, 9, 10] rfl)
            · refine lv_iconst (v := 1) hx hb dL_notices_152 (by decide) ?_
              refine lv_goto (tgt := 157) hx hb dL_notices_153 (by decide) ?_
              exact j157 1 (Or.inl ⟨rfl, Or.inr (i_le c_149)⟩) _ _ _ hH (lv_sub hl [0, 1, 2, 3, 4, 5, 6, 7, 8, 9, 10] rfl)
        refine lv_if_eq (tgt := 123) hx hb dL_notices_106 (by decide) (fun c_106 => ?_) (fun c_106 => ?_)
        · refine lv_iload_n hx hb dL_notices_123 rfl (lv_at hl 7 rfl) ?_
          refine lv_bipush (v := 9) hx hb dL_notices_124 (by decide) ?_
          refine lv_ishr hx hb dL_notices_126 ?_
          refine lv_bipush (v := 41) hx hb dL_notices_127 (by decide) ?_
          refine callSI (rest := []) F (c_some l G (sW G q n nc t fl fd k wd wf wa cd cf) (z0 >>> (9 &&& 31)) 41 (by decide)) gL_notices_L_some rfl hdL_some ⟨Nat.le_of_ble_eq_true rfl, Nat.le_of_ble_eq_true rfl⟩ ([] : va_W) ([] : va_W) hH (by simp only [List.nil_append, List.append_nil]) rfl hl.1 (Nat.le_of_ble_eq_true rfl) dL_notices_129 ⟨(Nat.le_of_ble_eq_true rfl), (Nat.le_of_ble_eq_true rfl)⟩ rfl (fun u H locs hH => ?_)
          rw [List.nil_append, List.append_nil] at hH
          have hH : HH G A s (sW G q n nc t fl fd k wd wf wa cd cf) H locs := hH
          refine W.widen (k := 0 + 0 + 0) (n := 0 + 0 + 0) (Nat.le_of_ble_eq_true rfl) (Nat.le_of_ble_eq_true rfl) ?_
          exact j132 _ _ _ _ hH (lv_sub hl [0, 1, 2, 3, 4, 5, 6, 7, 8] rfl)
        · refine lv_iload_n hx hb dL_notices_109 rfl (lv_at hl 7 rfl) ?_
          refine lv_bipush (v := 9) hx hb dL_notices_110 (by decide) ?_
          refine lv_ishr hx hb dL_notices_112 ?_
          refine lv_bipush (v := 44) hx hb dL_notices_113 (by decide) ?_
          refine callSI (rest := []) F (c_some l G (sW G q n nc t fl fd k wd wf wa cd cf) (z0 >>> (9 &&& 31)) 44 (by decide)) gL_notices_L_some rfl hdL_some ⟨Nat.le_of_ble_eq_true rfl, Nat.le_of_ble_eq_true rfl⟩ ([] : va_W) ([] : va_W) hH (by simp only [List.nil_append, List.append_nil]) rfl hl.1 (Nat.le_of_ble_eq_true rfl) dL_notices_115 ⟨(Nat.le_of_ble_eq_true rfl), (Nat.le_of_ble_eq_true rfl)⟩ rfl (fun u H locs hH => ?_)
          rw [List.nil_append, List.append_nil] at hH
          have hH : HH G A s (sW G q n nc t fl fd k wd wf wa cd cf) H locs := hH
          refine lv_iconst (v := 2) hx hb dL_notices_118 (by decide) ?_
          refine lv_isub hx hb dL_notices_119 ?_
          refine lv_goto (tgt := 132) hx hb dL_notices_120 (by decide) ?_
          refine W.widen (k := 0 + 0 + 0) (n := 0 + 0 + 0) (Nat.le_of_ble_eq_true rfl) (Nat.le_of_ble_eq_true rfl) ?_
          exact j132 _ _ _ _ hH (lv_sub hl [0, 1, 2, 3, 4, 5, 6, 7, 8] rfl)
      refine lv_if_eq (tgt := 94) hx hb dL_notices_78 (by decide) (fun c_78 => ?_) (fun c_78 => ?_)
      · refine lv_iload_n hx hb dL_notices_94 rfl (lv_at hl 6 rfl) ?_
        refine lv_iconst (v := 4) hx hb dL_notices_95 (by decide) ?_
        refine lv_ishr hx hb dL_notices_96 ?_
        refine lv_bipush (v := 12) hx hb dL_notices_97 (by decide) ?_
        refine callSI (rest := [.int f]) F (c_some l G (sW G q n nc t fl fd k wd wf wa cd cf) (z0 >>> (4 &&& 31)) 12 (by decide)) gL_notices_L_some rfl hdL_some ⟨Nat.le_of_ble_eq_true rfl, Nat.le_of_ble_eq_true rfl⟩ ([] : va_W) ([] : va_W) hH (by simp only [List.nil_append, List.append_nil]) rfl hl.1 (Nat.le_of_ble_eq_true rfl) dL_notices_99 ⟨(Nat.le_of_ble_eq_true rfl), (Nat.le_of_ble_eq_true rfl)⟩ rfl (fun u H locs hH => ?_)
        rw [List.nil_append, List.append_nil] at hH
        have hH : HH G A s (sW G q n nc t fl fd k wd wf wa cd cf) H locs := hH
        refine lv_iadd hx hb dL_notices_102 ?_
        refine W.widen (k := 0 + 0 + 0) (n := 0 + 0 + 0) (Nat.le_of_ble_eq_true rfl) (Nat.le_of_ble_eq_true rfl) ?_
        exact j103 _ _ _ _ hH (lv_sub hl [0, 1, 2, 3, 4, 5, 6, 7] rfl)
      · refine lv_iload_n hx hb dL_notices_81 rfl (lv_at hl 6 rfl) ?_
        refine lv_iconst (v := 4) hx hb dL_notices_82 (by decide) ?_
        refine lv_ishr hx hb dL_notices_83 ?_
        refine lv_bipush (v := 24) hx hb dL_notices_84 (by decide) ?_
        refine callSI (rest := [.int f]) F (c_some l G (sW G q n nc t fl fd k wd wf wa cd cf) (z0 >>> (4 &&& 31)) 24 (by decide)) gL_notices_L_some rfl hdL_some ⟨Nat.le_of_ble_eq_true rfl, Nat.le_of_ble_eq_true rfl⟩ ([] : va_W) ([] : va_W) hH (by simp only [List.nil_append, List.append_nil]) rfl hl.1 (Nat.le_of_ble_eq_true rfl) dL_notices_86 ⟨(Nat.le_of_ble_eq_true rfl), (Nat.le_of_ble_eq_true rfl)⟩ rfl (fun u H locs hH => ?_)
        rw [List.nil_append, List.append_nil] at hH
        have hH : HH G A s (sW G q n nc t fl fd k wd wf wa cd cf) H locs := hH
        refine lv_iconst (v := 2) hx hb dL_notices_89 (by decide) ?_
        refine lv_isub hx hb dL_notices_90 ?_
        refine lv_goto (tgt := 102) hx hb dL_notices_91 (by decide) ?_
        refine lv_iadd hx hb dL_notices_102 ?_
        refine W.widen (k := 0 + 0 + 0) (n := 0 + 0 + 0) (Nat.le_of_ble_eq_true rfl) (Nat.le_of_ble_eq_true rfl) ?_
        exact j103 _ _ _ _ hH (lv_sub hl [0, 1, 2, 3, 4, 5, 6, 7] rfl)
    refine lv_if_eq (tgt := 62) hx hb dL_notices_47 (by decide) (fun c_47 => ?_) (fun c_47 => ?_)
    · refine lv_iload hx hb dL_notices_62 (lv_at hl 1 rfl) ?_
      refine lv_iconst (v := 1) hx hb dL_notices_64 (by decide) ?_
      refine lv_iadd hx hb dL_notices_65 ?_
      refine lv_iload_n hx hb dL_notices_66 rfl (lv_at hl 5 rfl) ?_
      refine lv_bipush (v := 8) hx hb dL_notices_67 (by decide) ?_
      refine callSI (rest := [.int ((nI t) + 1)]) F (c_some l G (sW G q n nc t fl fd k wd wf wa cd cf) z0 8 (by decide)) gL_notices_L_some rfl hdL_some ⟨Nat.le_of_ble_eq_true rfl, Nat.le_of_ble_eq_true rfl⟩ ([] : va_W) ([] : va_W) hH (by simp only [List.nil_append, List.append_nil]) rfl hl.1 (Nat.le_of_ble_eq_true rfl) dL_notices_69 ⟨(Nat.le_of_ble_eq_true rfl), (Nat.le_of_ble_eq_true rfl)⟩ rfl (fun u H locs hH => ?_)
      rw [List.nil_append, List.append_nil] at hH
      have hH : HH G A s (sW G q n nc t fl fd k wd wf wa cd cf) H locs := hH
      refine lv_iadd hx hb dL_notices_72 ?_
      refine W.widen (k := 0 + 0 + 0) (n := 0 + 0 + 0) (Nat.le_of_ble_eq_true rfl) (Nat.le_of_ble_eq_true rfl) ?_
      exact j73 _ _ _ _ hH (lv_sub hl [0, 1, 2, 3, 4, 5, 6] rfl)
    · refine lv_iload_n hx hb dL_notices_50 rfl (lv_at hl 5 rfl) ?_
      refine lv_sipush (v := 204) hx hb dL_notices_51 (by decide) ?_
      refine callSI (rest := []) F (c_some l G (sW G q n nc t fl fd k wd wf wa cd cf) z0 204 (by decide)) gL_notices_L_some rfl hdL_some ⟨Nat.le_of_ble_eq_true rfl, Nat.le_of_ble_eq_true rfl⟩ ([] : va_W) ([] : va_W) hH (by simp only [List.nil_append, List.append_nil]) rfl hl.1 (Nat.le_of_ble_eq_true rfl) dL_notices_54 ⟨(Nat.le_of_ble_eq_true rfl), (Nat.le_of_ble_eq_true rfl)⟩ rfl (fun u H locs hH => ?_)
      rw [List.nil_append, List.append_nil] at hH
      have hH : HH G A s (sW G q n nc t fl fd k wd wf wa cd cf) H locs := hH
      refine lv_iconst (v := 2) hx hb dL_notices_57 (by decide) ?_
      refine lv_isub hx hb dL_notices_58 ?_
      refine lv_goto (tgt := 73) hx hb dL_notices_59 (by decide) ?_
      refine W.widen (k := 0 + 0 + 0) (n := 0 + 0 + 0) (Nat.le_of_ble_eq_true rfl) (Nat.le_of_ble_eq_true rfl) ?_
      exact j73 _ _ _ _ hH (lv_sub hl [0, 1, 2, 3, 4, 5, 6] rfl)
  refine lv_if_eq (tgt := 29) hx hb dL_notices_13 (by decide) (fun c_13 => ?_) (fun c_13 => ?_)
  · refine lv_iload_n hx hb dL_notices_29 rfl (lv_at hl 3 rfl) ?_
    refine lv_iload hx hb dL_notices_30 (lv_at hl 1 rfl) ?_
    refine lv_if_ne (tgt := 39) hx hb dL_notices_32 (by decide) (fun c_32 => ?_) (fun c_32 => ?_)
    · refine lv_iload hx hb dL_notices_39 (lv_at hl 1 rfl) ?_
      refine callSI (rest := []) F (c_some l G (sW G q n nc t fl fd k wd wf wa cd cf) x0 (nI n) c_32) gL_notices_L_some rfl hdL_some ⟨Nat.le_of_ble_eq_true rfl, Nat.le_of_ble_eq_true rfl⟩ ([] : va_W) ([] : va_W) hH (by simp only [List.nil_append, List.append_nil]) rfl hl.1 (Nat.le_of_ble_eq_true rfl) dL_notices_41 ⟨(Nat.le_of_ble_eq_true rfl), (Nat.le_of_ble_eq_true rfl)⟩ rfl (fun u H locs hH => ?_)
      rw [List.nil_append, List.append_nil] at hH
      have hH : HH G A s (sW G q n nc t fl fd k wd wf wa cd cf) H locs := hH
      refine W.widen (k := 0 + 0 + 0) (n := 0 + 0 + 0) (Nat.le_of_ble_eq_true rfl) (Nat.le_of_ble_eq_true rfl) ?_
      exact j44 _ _ _ _ hH (lv_sub hl [0, 1, 2, 3, 4, 5] rfl)
    · refine lv_iconst (v := 1) hx hb dL_notices_35 (by decide) ?_
      refine lv_goto (tgt := 41) hx hb dL_notices_36 (by decide) ?_
      refine callSI (rest := []) F (c_some l G (sW G q n nc t fl fd k wd wf wa cd cf) x0 1 (by decide)) gL_notices_L_some rfl hdL_some ⟨Nat.le_of_ble_eq_true rfl, Nat.le_of_ble_eq_true rfl⟩ ([] : va_W) ([] : va_W) hH (by simp only [List.nil_append, List.append_nil]) rfl hl.1 (Nat.le_of_ble_eq_true rfl) dL_notices_41 ⟨(Nat.le_of_ble_eq_true rfl), (Nat.le_of_ble_eq_true rfl)⟩ rfl (fun u H locs hH => ?_)
      rw [List.nil_append, List.append_nil] at hH
      have hH : HH G A s (sW G q n nc t fl fd k wd wf wa cd cf) H locs := hH
      refine W.widen (k := 0 + 0 + 0) (n := 0 + 0 + 0) (Nat.le_of_ble_eq_true rfl) (Nat.le_of_ble_eq_true rfl) ?_
      exact j44 _ _ _ _ hH (lv_sub hl [0, 1, 2, 3, 4, 5] rfl)
  · refine lv_iload_n hx hb dL_notices_16 rfl (lv_at hl 3 rfl) ?_
    refine lv_iload hx hb dL_notices_17 (lv_at hl 1 rfl) ?_
    refine lv_iconst (v := 2) hx hb dL_notices_19 (by decide) ?_
    refine lv_iadd hx hb dL_notices_20 ?_
    refine callSI (rest := []) F (c_some l G (sW G q n nc t fl fd k wd wf wa cd cf) x0 (nI n + 2) (nI_add2_ne (by omega) 2 (by decide) (by decide))) gL_notices_L_some rfl hdL_some ⟨Nat.le_of_ble_eq_true rfl, Nat.le_of_ble_eq_true rfl⟩ ([] : va_W) ([] : va_W) hH (by simp only [List.nil_append, List.append_nil]) rfl hl.1 (Nat.le_of_ble_eq_true rfl) dL_notices_21 ⟨(Nat.le_of_ble_eq_true rfl), (Nat.le_of_ble_eq_true rfl)⟩ rfl (fun u H locs hH => ?_)
    rw [List.nil_append, List.append_nil] at hH
    have hH : HH G A s (sW G q n nc t fl fd k wd wf wa cd cf) H locs := hH
    refine lv_iconst (v := 1) hx hb dL_notices_24 (by decide) ?_
    refine lv_isub hx hb dL_notices_25 ?_
    refine lv_goto (tgt := 44) hx hb dL_notices_26 (by decide) ?_
    refine W.widen (k := 0 + 0 + 0) (n := 0 + 0 + 0) (Nat.le_of_ble_eq_true rfl) (Nat.le_of_ble_eq_true rfl) ?_
    exact j44 _ _ _ _ hH (lv_sub hl [0, 1, 2, 3, 4, 5] rfl)
