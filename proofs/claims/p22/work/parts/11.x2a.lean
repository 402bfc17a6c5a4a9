set_option maxHeartbeats 4000000 in
set_option maxRecDepth 100000 in
theorem c_X2_isWithin_1 (l : Launch) (G : Gx) (ws : va_W) (v lo hi : Int32) (h1 : lo ≤ v) (h2 : v ≤ hi) : MI l yX2_isWithin wsX2_isWithin ({ frames := 0, cells := 0, slots := 0, locals := 0 } : Room) [.int v, .int lo, .int hi] G (ws) (fun u => ws) 1 := by
  refine ofMI (cc := cX2_isWithin) (maxL := 3) (ret := (some .boolean)) (by decide) rfl (Nat.le_of_ble_eq_true rfl) (fun p e s m below meth c A ls F hr hnm hH hl => ?_)
  have F : Fx G p s m _ meth c cX2_isWithin 3 wsX2_isWithin RX2 A := F
  have hx := F.1.1
  have hb := F.1.2.1
  have hl : lv_has ls 3 [(0, .int v), (1, .int lo), (2, .int hi)] := hl
  refine lv_iload_n hx hb dX2_isWithin_0 rfl (lv_at hl 0 rfl) ?_
  refine lv_iload_n hx hb dX2_isWithin_1 rfl (lv_at hl 1 rfl) ?_
  refine lv_icmp_lt (tgt := 14) hx hb dX2_isWithin_2 (by decide) (fun c_2 => absurd c_2 (i_nlt h1)) (fun c_2 => ?_)
  refine lv_iload_n hx hb dX2_isWithin_5 rfl (lv_at hl 0 rfl) ?_
  refine lv_iload_n hx hb dX2_isWithin_6 rfl (lv_at hl 2 rfl) ?_
  refine lv_icmp_gt (tgt := 14) hx hb dX2_isWithin_7 (by decide) (fun c_7 => absurd c_7 (i_nlt h2)) (fun c_7 => ?_)
  refine lv_iconst (v := 1) hx hb dX2_isWithin_10 (by decide) ?_
  refine lv_goto (tgt := 15) hx hb dX2_isWithin_11 (by decide) ?_
  exact retI F hr rfl (fun _ => 0) hH rfl (Nat.le_of_ble_eq_true rfl) (Nat.le_of_ble_eq_true rfl) dX2_isWithin_15

set_option maxHeartbeats 4000000 in
set_option maxRecDepth 100000 in
theorem c_X2_isWithin_0 (l : Launch) (G : Gx) (ws : va_W) (v lo hi : Int32) (h : v < lo ∨ hi < v) : MI l yX2_isWithin wsX2_isWithin ({ frames := 0, cells := 0, slots := 0, locals := 0 } : Room) [.int v, .int lo, .int hi] G (ws) (fun u => ws) 0 := by
  refine ofMI (cc := cX2_isWithin) (maxL := 3) (ret := (some .boolean)) (by decide) rfl (Nat.le_of_ble_eq_true rfl) (fun p e s m below meth c A ls F hr hnm hH hl => ?_)
  have F : Fx G p s m _ meth c cX2_isWithin 3 wsX2_isWithin RX2 A := F
  have hx := F.1.1
  have hb := F.1.2.1
  have hl : lv_has ls 3 [(0, .int v), (1, .int lo), (2, .int hi)] := hl
  refine lv_iload_n hx hb dX2_isWithin_0 rfl (lv_at hl 0 rfl) ?_
  refine lv_iload_n hx hb dX2_isWithin_1 rfl (lv_at hl 1 rfl) ?_
  refine lv_icmp_lt (tgt := 14) hx hb dX2_isWithin_2 (by decide) (fun c_2 => ?_) (fun c_2 => ?_)
  · refine lv_iconst (v := 0) hx hb dX2_isWithin_14 (by decide) ?_
    exact retI F hr rfl (fun _ => 0) hH rfl (Nat.le_of_ble_eq_true rfl) (Nat.le_of_ble_eq_true rfl) dX2_isWithin_15
  · refine lv_iload_n hx hb dX2_isWithin_5 rfl (lv_at hl 0 rfl) ?_
    refine lv_iload_n hx hb dX2_isWithin_6 rfl (lv_at hl 2 rfl) ?_
    refine lv_icmp_gt (tgt := 14) hx hb dX2_isWithin_7 (by decide) (fun c_7 => ?_) (fun c_7 => absurd (h.resolve_left c_2) c_7)
    refine lv_iconst (v := 0) hx hb dX2_isWithin_14 (by decide) ?_
    exact retI F hr rfl (fun _ => 0) hH rfl (Nat.le_of_ble_eq_true rfl) (Nat.le_of_ble_eq_true rfl) dX2_isWithin_15

set_option maxHeartbeats 4000000 in
set_option maxRecDepth 100000 in
theorem c_X2_requireArgument_1 (l : Launch) (G : Gx) (ws : va_W) : MV l yX2_requireArgument wsX2_requireArgument ({ frames := 0, cells := 0, slots := 0, locals := 0 } : Room) [.int 1] G (ws) (fun u => ws) := by
  refine ofMV (cc := cX2_requireArgument) (maxL := 1) (ret := none) (by decide) rfl (Nat.le_of_ble_eq_true rfl) (fun p e s m below meth c A ls F hr hnm hH hl => ?_)
  have F : Fx G p s m _ meth c cX2_requireArgument 1 wsX2_requireArgument RX2 A := F
  have hx := F.1.1
  have hb := F.1.2.1
  have hl : lv_has ls 1 [(0, .int 1)] := hl
  refine lv_iload_n hx hb dX2_requireArgument_0 rfl (lv_at hl 0 rfl) ?_
  refine lv_if_ne (tgt := 12) hx hb dX2_requireArgument_1 (by decide) (fun c_1 => ?_) (fun c_1 => absurd c_1 (by decide))
  exact retV F hr (fun _ => 0) hH (Nat.le_of_ble_eq_true rfl) (Nat.le_of_ble_eq_true rfl) dX2_requireArgument_12

set_option maxHeartbeats 4000000 in
set_option maxRecDepth 100000 in
theorem c_X2_requireArgument_0 (l : Launch) (hst : l.stackTraces = false) (G : Gx) (ws : va_W) : MX l yX2_requireArgument wsX2_requireArgument ({ frames := 6, cells := 1, slots := 6, locals := 90 } : Room) [.int 0] G (ws) "java/lang/IllegalArgumentException" := by
  refine ofMX (cc := cX2_requireArgument) (maxL := 1) (ret := none) (by decide) rfl (Nat.le_of_ble_eq_true rfl) (fun p e s m below meth c A ls F htb hH hl => ?_)
  have F : Fx G p s m _ meth c cX2_requireArgument 1 wsX2_requireArgument RX2 A := F
  have hx := F.1.1
  have hb := F.1.2.1
  have hl : lv_has ls 1 [(0, .int 0)] := hl
  refine lv_iload_n hx hb dX2_requireArgument_0 rfl (lv_at hl 0 rfl) ?_
  refine lv_if_ne (tgt := 12) hx hb dX2_requireArgument_1 (by decide) (fun c_1 => absurd rfl c_1) (fun c_1 => ?_)
  exact throw0 F hst (names := ["java/lang/RuntimeException", "java/lang/Exception"]) (ik := 144) (ic := 146) (by decide +kernel) (by decide +kernel) (by decide +kernel) (by decide +kernel) thr_X2_requireArgument thr_X2_requireArgument_c thr_X2_requireArgument_ot hH hl.1 dX2_requireArgument_4 dX2_requireArgument_7 dX2_requireArgument_8 dX2_requireArgument_11 htb (Nat.le_of_ble_eq_true rfl) (Nat.le_of_ble_eq_true rfl) (Nat.le_of_ble_eq_true rfl) (Nat.le_of_ble_eq_true rfl) (Nat.le_of_ble_eq_true rfl) (Nat.le_of_ble_eq_true rfl)

set_option maxHeartbeats 4000000 in
set_option maxRecDepth 100000 in
theorem c_X2_requireState_1 (l : Launch) (G : Gx) (ws : va_W) : MV l yX2_requireState wsX2_requireState ({ frames := 0, cells := 0, slots := 0, locals := 0 } : Room) [.int 1] G (ws) (fun u => ws) := by
  refine ofMV (cc := cX2_requireState) (maxL := 1) (ret := none) (by decide) rfl (Nat.le_of_ble_eq_true rfl) (fun p e s m below meth c A ls F hr hnm hH hl => ?_)
  have F : Fx G p s m _ meth c cX2_requireState 1 wsX2_requireState RX2 A := F
  have hx := F.1.1
  have hb := F.1.2.1
  have hl : lv_has ls 1 [(0, .int 1)] := hl
  refine lv_iload_n hx hb dX2_requireState_0 rfl (lv_at hl 0 rfl) ?_
  refine lv_if_ne (tgt := 12) hx hb dX2_requireState_1 (by decide) (fun c_1 => ?_) (fun c_1 => absurd c_1 (by decide))
  exact retV F hr (fun _ => 0) hH (Nat.le_of_ble_eq_true rfl) (Nat.le_of_ble_eq_true rfl) dX2_requireState_12

set_option maxHeartbeats 4000000 in
set_option maxRecDepth 100000 in
theorem c_X2_requireState_0 (l : Launch) (hst : l.stackTraces = false) (G : Gx) (ws : va_W) : MX l yX2_requireState wsX2_requireState ({ frames := 6, cells := 1, slots := 6, locals := 90 } : Room) [.int 0] G (ws) "java/lang/IllegalStateException" := by
  refine ofMX (cc := cX2_requireState) (maxL := 1) (ret := none) (by decide) rfl (Nat.le_of_ble_eq_true rfl) (fun p e s m below meth c A ls F htb hH hl => ?_)
  have F : Fx G p s m _ meth c cX2_requireState 1 wsX2_requireState RX2 A := F
  have hx := F.1.1
  have hb := F.1.2.1
  have hl : lv_has ls 1 [(0, .int 0)] := hl
  refine lv_iload_n hx hb dX2_requireState_0 rfl (lv_at hl 0 rfl) ?_
  refine lv_if_ne (tgt := 12) hx hb dX2_requireState_1 (by decide) (fun c_1 => absurd rfl c_1) (fun c_1 => ?_)
  exact throw0 F hst (names := ["java/lang/RuntimeException", "java/lang/Exception"]) (ik := 147) (ic := 149) (by decide +kernel) (by decide +kernel) (by decide +kernel) (by decide +kernel) thr_X2_requireState thr_X2_requireState_c thr_X2_requireState_ot hH hl.1 dX2_requireState_4 dX2_requireState_7 dX2_requireState_8 dX2_requireState_11 htb (Nat.le_of_ble_eq_true rfl) (Nat.le_of_ble_eq_true rfl) (Nat.le_of_ble_eq_true rfl) (Nat.le_of_ble_eq_true rfl) (Nat.le_of_ble_eq_true rfl) (Nat.le_of_ble_eq_true rfl)

set_option maxHeartbeats 4000000 in
set_option maxRecDepth 100000 in
theorem c_X2_isSpan_1 (l : Launch) (G : Gx) (ws : va_W) (x y : Int32) (h1 : 0 ≤ x) (h2 : x ≤ 200) (h3 : x ≤ y) (h4 : y ≤ 200) : MI l yX2_isSpan wsX2_isSpan ({ frames := 1, cells := 0, slots := 0, locals := 22 } : Room) [.int x, .int y] G (ws) (fun u => ws) 1 := by
  refine ofMI (cc := cX2_isSpan) (maxL := 2) (ret := (some .boolean)) (by decide) rfl (Nat.le_of_ble_eq_true rfl) (fun p e s m below meth c A ls F hr hnm hH hl => ?_)
  have F : Fx G p s m _ meth c cX2_isSpan 2 wsX2_isSpan RX2 A := F
  have hx := F.1.1
  have hb := F.1.2.1
  have hl : lv_has ls 2 [(0, .int x), (1, .int y)] := hl
  refine lv_iload_n hx hb dX2_isSpan_0 rfl (lv_at hl 0 rfl) ?_
  refine lv_iconst (v := 0) hx hb dX2_isSpan_1 (by decide) ?_
  refine lv_sipush (v := 200) hx hb dX2_isSpan_2 (by decide) ?_
  refine callSI0 (rest := []) F (c_X2_isWithin_1 l G ws x 0 200 h1 h2) gX2_isSpan_X2_isWithin rfl hdX2_isWithin ⟨Nat.le_of_ble_eq_true rfl, Nat.le_of_ble_eq_true rfl⟩ hH rfl hl.1 (Nat.le_of_ble_eq_true rfl) dX2_isSpan_5 ⟨Nat.le_of_ble_eq_true rfl, Nat.le_of_ble_eq_true rfl⟩ rfl (fun u H locs hH => ?_)
  have hH : HH G A s (ws) H locs := hH
  refine lv_if_eq (tgt := 26) hx hb dX2_isSpan_8 (by decide) (fun c_8 => absurd c_8 (by decide)) (fun c_8 => ?_)
  refine lv_iload_n hx hb dX2_isSpan_11 rfl (lv_at hl 1 rfl) ?_
  refine lv_iload_n hx hb dX2_isSpan_12 rfl (lv_at hl 0 rfl) ?_
  refine lv_sipush (v := 200) hx hb dX2_isSpan_13 (by decide) ?_
  refine callSI0 (rest := []) F (c_X2_isWithin_1 l G ws y x 200 h3 h4) gX2_isSpan_X2_isWithin rfl hdX2_isWithin ⟨Nat.le_of_ble_eq_true rfl, Nat.le_of_ble_eq_true rfl⟩ hH rfl hl.1 (Nat.le_of_ble_eq_true rfl) dX2_isSpan_16 ⟨Nat.le_of_ble_eq_true rfl, Nat.le_of_ble_eq_true rfl⟩ rfl (fun u H locs hH => ?_)
  have hH : HH G A s (ws) H locs := hH
  refine lv_if_eq (tgt := 26) hx hb dX2_isSpan_19 (by decide) (fun c_19 => absurd c_19 (by decide)) (fun c_19 => ?_)
  refine lv_iconst (v := 1) hx hb dX2_isSpan_22 (by decide) ?_
  refine lv_goto (tgt := 27) hx hb dX2_isSpan_23 (by decide) ?_
  exact retI F hr rfl (fun _ => 0) hH rfl (Nat.le_of_ble_eq_true rfl) (Nat.le_of_ble_eq_true rfl) dX2_isSpan_27

set_option maxHeartbeats 4000000 in
set_option maxRecDepth 100000 in
theorem c_X2_isSpan_0 (l : Launch) (G : Gx) (ws : va_W) (x y : Int32) (h : x < 0 ∨ 200 < x) : MI l yX2_isSpan wsX2_isSpan ({ frames := 1, cells := 0, slots := 0, locals := 22 } : Room) [.int x, .int y] G (ws) (fun u => ws) 0 := by
  refine ofMI (cc := cX2_isSpan) (maxL := 2) (ret := (some .boolean)) (by decide) rfl (Nat.le_of_ble_eq_true rfl) (fun p e s m below meth c A ls F hr hnm hH hl => ?_)
  have F : Fx G p s m _ meth c cX2_isSpan 2 wsX2_isSpan RX2 A := F
  have hx := F.1.1
  have hb := F.1.2.1
  have hl : lv_has ls 2 [(0, .int x), (1, .int y)] := hl
  refine lv_iload_n hx hb dX2_isSpan_0 rfl (lv_at hl 0 rfl) ?_
  refine lv_iconst (v := 0) hx hb dX2_isSpan_1 (by decide) ?_
  refine lv_sipush (v := 200) hx hb dX2_isSpan_2 (by decide) ?_
  refine callSI0 (rest := []) F (c_X2_isWithin_0 l G ws x 0 200 h) gX2_isSpan_X2_isWithin rfl hdX2_isWithin ⟨Nat.le_of_ble_eq_true rfl, Nat.le_of_ble_eq_true rfl⟩ hH rfl hl.1 (Nat.le_of_ble_eq_true rfl) dX2_isSpan_5 ⟨Nat.le_of_ble_eq_true rfl, Nat.le_of_ble_eq_true rfl⟩ rfl (fun u H locs hH => ?_)
  have hH : HH G A s (ws) H locs := hH
  refine lv_if_eq (tgt := 26) hx hb dX2_isSpan_8 (by decide) (fun c_8 => ?_) (fun c_8 => absurd rfl c_8)
  refine lv_iconst (v := 0) hx hb dX2_isSpan_26 (by decide) ?_
  exact retI F hr rfl (fun _ => 0) hH rfl (Nat.le_of_ble_eq_true rfl) (Nat.le_of_ble_eq_true rfl) dX2_isSpan_27

set_option maxHeartbeats 4000000 in
set_option maxRecDepth 100000 in
theorem c_X2_isSpan_00 (l : Launch) (G : Gx) (ws : va_W) (x y : Int32) (h1 : 0 ≤ x) (h2 : x ≤ 200) (h : y < x ∨ 200 < y) : MI l yX2_isSpan wsX2_isSpan ({ frames := 1, cells := 0, slots := 0, locals := 22 } : Room) [.int x, .int y] G (ws) (fun u => ws) 0 := by
  refine ofMI (cc := cX2_isSpan) (maxL := 2) (ret := (some .boolean)) (by decide) rfl (Nat.le_of_ble_eq_true rfl) (fun p e s m below meth c A ls F hr hnm hH hl => ?_)
  have F : Fx G p s m _ meth c cX2_isSpan 2 wsX2_isSpan RX2 A := F
  have hx := F.1.1
  have hb := F.1.2.1
  have hl : lv_has ls 2 [(0, .int x), (1, .int y)] := hl
  refine lv_iload_n hx hb dX2_isSpan_0 rfl (lv_at hl 0 rfl) ?_
  refine lv_iconst (v := 0) hx hb dX2_isSpan_1 (by decide) ?_
  refine lv_sipush (v := 200) hx hb dX2_isSpan_2 (by decide) ?_
  refine callSI0 (rest := []) F (c_X2_isWithin_1 l G ws x 0 200 h1 h2) gX2_isSpan_X2_isWithin rfl hdX2_isWithin ⟨Nat.le_of_ble_eq_true rfl, Nat.le_of_ble_eq_true rfl⟩ hH rfl hl.1 (Nat.le_of_ble_eq_true rfl) dX2_isSpan_5 ⟨Nat.le_of_ble_eq_true rfl, Nat.le_of_ble_eq_true rfl⟩ rfl (fun u H locs hH => ?_)
  have hH : HH G A s (ws) H locs := hH
  refine lv_if_eq (tgt := 26) hx hb dX2_isSpan_8 (by decide) (fun c_8 => absurd c_8 (by decide)) (fun c_8 => ?_)
  refine lv_iload_n hx hb dX2_isSpan_11 rfl (lv_at hl 1 rfl) ?_
  refine lv_iload_n hx hb dX2_isSpan_12 rfl (lv_at hl 0 rfl) ?_
  refine lv_sipush (v := 200) hx hb dX2_isSpan_13 (by decide) ?_
  refine callSI0 (rest := []) F (c_X2_isWithin_0 l G ws y x 200 h) gX2_isSpan_X2_isWithin rfl hdX2_isWithin ⟨Nat.le_of_ble_eq_true rfl, Nat.le_of_ble_eq_true rfl⟩ hH rfl hl.1 (Nat.le_of_ble_eq_true rfl) dX2_isSpan_16 ⟨Nat.le_of_ble_eq_true rfl, Nat.le_of_ble_eq_true rfl⟩ rfl (fun u H locs hH => ?_)
  have hH : HH G A s (ws) H locs := hH
  refine lv_if_eq (tgt := 26) hx hb dX2_isSpan_19 (by decide) (fun c_19 => ?_) (fun c_19 => absurd rfl c_19)
  refine lv_iconst (v := 0) hx hb dX2_isSpan_26 (by decide) ?_
  exact retI F hr rfl (fun _ => 0) hH rfl (Nat.le_of_ble_eq_true rfl) (Nat.le_of_ble_eq_true rfl) dX2_isSpan_27

set_option maxHeartbeats 4000000 in
set_option maxRecDepth 100000 in
theorem c_X2_hasPassed_1 (l : Launch) (G : Gx) (q : Nat → Nat) (n nc t : Nat) (fl fd : Int32) (k : Nat → Int32) (wd : Nat → Nat → Nat) (wf : Nat → Nat → Int32) (wa : Nat → Nat → Nat → Int32) (cd : Nat → Nat) (cf : Nat → Nat → Int32) (ht : t < 1000) (j : Nat) (hj : j < t) : MI l yX2_hasPassed wsX2_hasPassed ({ frames := 1, cells := 0, slots := 0, locals := 22 } : Room) [.ref (q 0), .int (nI j)] G (sW G q n nc t fl fd k wd wf wa cd cf) (fun u => sW G q n nc t fl fd k wd wf wa cd cf) 1 := by
  refine ofMI (cc := cX2_hasPassed) (maxL := 2) (ret := (some .boolean)) (by decide) rfl (Nat.le_of_ble_eq_true rfl) (fun p e s m below meth c A ls F hr hnm hH hl => ?_)
  have F : Fx G p s m _ meth c cX2_hasPassed 2 wsX2_hasPassed RX2 A := F
  have hx := F.1.1
  have hb := F.1.2.1
  have hl : lv_has ls 2 [(0, .ref (q 0)), (1, .int (nI j))] := hl
  refine lv_iload_n hx hb dX2_hasPassed_0 rfl (lv_at hl 1 rfl) ?_
  refine lv_iconst (v := 0) hx hb dX2_hasPassed_1 (by decide) ?_
  refine lv_aload_n hx hb dX2_hasPassed_2 rfl (lv_at hl 0 rfl) ?_
  refine rget (C := RX2) (T := TX2) (N := 8) (ref := RX2) F in_X2_hasPassed_X2 hH 0 rfl rfl 5 (by decide) (by decide +kernel) (fun _ h9 => h9) (v := .int (nI t)) rfl dX2_hasPassed_3 ?_
  refine lv_iconst (v := 1) hx hb dX2_hasPassed_6 (by decide) ?_
  refine lv_isub hx hb dX2_hasPassed_7 ?_
  refine callSI0 (rest := []) F (c_X2_isWithin_1 l G _ (nI j) 0 (nI t - 1) (nI_pos' (by omega)) (nI_le_m1 hj (by omega))) gX2_hasPassed_X2_isWithin rfl hdX2_isWithin ⟨Nat.le_of_ble_eq_true rfl, Nat.le_of_ble_eq_true rfl⟩ hH rfl hl.1 (Nat.le_of_ble_eq_true rfl) dX2_hasPassed_8 ⟨Nat.le_of_ble_eq_true rfl, Nat.le_of_ble_eq_true rfl⟩ rfl (fun u H locs hH => ?_)
  have hH : HH G A s (sW G q n nc t fl fd k wd wf wa cd cf) H locs := hH
  exact retI F hr rfl (fun _ => 0) hH rfl (Nat.le_of_ble_eq_true rfl) (Nat.le_of_ble_eq_true rfl) dX2_hasPassed_11

set_option maxHeartbeats 4000000 in
set_option maxRecDepth 100000 in
theorem c_X2_hasPassed_0 (l : Launch) (G : Gx) (q : Nat → Nat) (n nc t : Nat) (fl fd : Int32) (k : Nat → Int32) (wd : Nat → Nat → Nat) (wf : Nat → Nat → Int32) (wa : Nat → Nat → Nat → Int32) (cd : Nat → Nat) (cf : Nat → Nat → Int32) (ht : t < 1000) (v : Int32) (h : v < 0 ∨ nI t ≤ v) : MI l yX2_hasPassed wsX2_hasPassed ({ frames := 1, cells := 0, slots := 0, locals := 22 } : Room) [.ref (q 0), .int v] G (sW G q n nc t fl fd k wd wf wa cd cf) (fun u => sW G q n nc t fl fd k wd wf wa cd cf) 0 := by
  refine ofMI (cc := cX2_hasPassed) (maxL := 2) (ret := (some .boolean)) (by decide) rfl (Nat.le_of_ble_eq_true rfl) (fun p e s m below meth c A ls F hr hnm hH hl => ?_)
  have F : Fx G p s m _ meth c cX2_hasPassed 2 wsX2_hasPassed RX2 A := F
  have hx := F.1.1
  have hb := F.1.2.1
  have hl : lv_has ls 2 [(0, .ref (q 0)), (1, .int v)] := hl
  refine lv_iload_n hx hb dX2_hasPassed_0 rfl (lv_at hl 1 rfl) ?_
  refine lv_iconst (v := 0) hx hb dX2_hasPassed_1 (by decide) ?_
  refine lv_aload_n hx hb dX2_hasPassed_2 rfl (lv_at hl 0 rfl) ?_
  refine rget (C := RX2) (T := TX2) (N := 8) (ref := RX2) F in_X2_hasPassed_X2 hH 0 rfl rfl 5 (by decide) (by decide +kernel) (fun _ h9 => h9) (v := .int (nI t)) rfl dX2_hasPassed_3 ?_
  refine lv_iconst (v := 1) hx hb dX2_hasPassed_6 (by decide) ?_
  refine lv_isub hx hb dX2_hasPassed_7 ?_
  refine callSI0 (rest := []) F (c_X2_isWithin_0 l G _ v 0 (nI t - 1) (out_m1 (by omega) h)) gX2_hasPassed_X2_isWithin rfl hdX2_isWithin ⟨Nat.le_of_ble_eq_true rfl, Nat.le_of_ble_eq_true rfl⟩ hH rfl hl.1 (Nat.le_of_ble_eq_true rfl) dX2_hasPassed_8 ⟨Nat.le_of_ble_eq_true rfl, Nat.le_of_ble_eq_true rfl⟩ rfl (fun u H locs hH => ?_)
  have hH : HH G A s (sW G q n nc t fl fd k wd wf wa cd cf) H locs := hH
  exact retI F hr rfl (fun _ => 0) hH rfl (Nat.le_of_ble_eq_true rfl) (Nat.le_of_ble_eq_true rfl) dX2_hasPassed_11

set_option maxHeartbeats 4000000 in
set_option maxRecDepth 100000 in
theorem c_X2_workerAt_1 (l : Launch) (G : Gx) (q : Nat → Nat) (n nc t : Nat) (fl fd : Int32) (k : Nat → Int32) (wd : Nat → Nat → Nat) (wf : Nat → Nat → Int32) (wa : Nat → Nat → Nat → Int32) (cd : Nat → Nat) (cf : Nat → Nat → Int32) (hn : n ≤ 8) (i : Nat) (hi : i < n) : MR l yX2_workerAt wsX2_workerAt ({ frames := 1, cells := 0, slots := 0, locals := 22 } : Room) [.ref (q 0), .int (nI i)] G (sW G q n nc t fl fd k wd wf wa cd cf) (wd i 0) := by
  refine ofMR (cc := cX2_workerAt) (maxL := 3) (ret := (some (.object "ShortWork$Worker"))) (by decide) rfl (Nat.le_of_ble_eq_true rfl) (fun p e s m below meth c A ls F hr hnm hH hl => ?_)
  have F : Fx G p s m _ meth c cX2_workerAt 3 wsX2_workerAt RX2 A := F
  have hx := F.1.1
  have hb := F.1.2.1
  have hl : lv_has ls 3 [(0, .ref (q 0)), (1, .int (nI i))] := hl
  refine lv_iload_n hx hb dX2_workerAt_0 rfl (lv_at hl 1 rfl) ?_
  refine lv_iconst (v := 0) hx hb dX2_workerAt_1 (by decide) ?_
  refine lv_aload_n hx hb dX2_workerAt_2 rfl (lv_at hl 0 rfl) ?_
  refine rget (C := RX2) (T := TX2) (N := 8) (ref := RX2) F in_X2_workerAt_X2 hH 0 rfl rfl 3 (by decide) (by decide +kernel) (fun _ h9 => h9) (v := .int (nI n)) rfl dX2_workerAt_3 ?_
  refine lv_iconst (v := 1) hx hb dX2_workerAt_6 (by decide) ?_
  refine lv_isub hx hb dX2_workerAt_7 ?_
  refine callSI0 (rest := []) F (c_X2_isWithin_1 l G _ (nI i) 0 (nI n - 1) (nI_pos' (by omega)) (nI_le_m1 hi (by omega))) gX2_workerAt_X2_isWithin rfl hdX2_isWithin ⟨Nat.le_of_ble_eq_true rfl, Nat.le_of_ble_eq_true rfl⟩ hH rfl hl.1 (Nat.le_of_ble_eq_true rfl) dX2_workerAt_8 ⟨Nat.le_of_ble_eq_true rfl, Nat.le_of_ble_eq_true rfl⟩ rfl (fun u H locs hH => ?_)
  have hH : HH G A s (sW G q n nc t fl fd k wd wf wa cd cf) H locs := hH
  refine lv_if_eq (tgt := 23) hx hb dX2_workerAt_11 (by decide) (fun c_11 => absurd c_11 (by decide)) (fun c_11 => ?_)
  refine lv_aload_n hx hb dX2_workerAt_14 rfl (lv_at hl 0 rfl) ?_
  refine rget (C := RX2) (T := TX2) (N := 8) (ref := RX2) F in_X2_workerAt_X2 hH 0 rfl rfl 0 (by decide) (by decide +kernel) (fun _ h9 => h9) (v := .ref (q 1)) rfl dX2_workerAt_15 ?_
  refine lv_iload_n hx hb dX2_workerAt_18 rfl (lv_at hl 1 rfl) ?_
  refine raald F hH 1 2 rfl rfl i rfl (by omega) (by decide) (v := .ref (wd i 0)) (rfT_in hi) dX2_workerAt_19 ?_
  refine lv_goto (tgt := 24) hx hb dX2_workerAt_20 (by decide) ?_
  refine lv_astore_n (lv' := [(2, .ref (wd i 0)), (0, .ref (q 0)), (1, .int (nI i))]) hx hb dX2_workerAt_24 rfl hl (by decide) rfl (fun ls hl => ?_)
  refine lv_aload_n hx hb dX2_workerAt_25 rfl (lv_at hl 0 rfl) ?_
  refine lv_ifnonnull (tgt := 37) hx hb dX2_workerAt_26 (by decide) ?_
  refine lv_aload_n hx hb dX2_workerAt_37 rfl (lv_at hl 0 rfl) ?_
  exact retR F hr hH (Nat.le_of_ble_eq_true rfl) (Nat.le_of_ble_eq_true rfl) dX2_workerAt_38

set_option maxHeartbeats 4000000 in
set_option maxRecDepth 100000 in
theorem c_X2_workerAt_0 (l : Launch) (hst : l.stackTraces = false) (G : Gx) (q : Nat → Nat) (n nc t : Nat) (fl fd : Int32) (k : Nat → Int32) (wd : Nat → Nat → Nat) (wf : Nat → Nat → Int32) (wa : Nat → Nat → Nat → Int32) (cd : Nat → Nat) (cf : Nat → Nat → Int32) (hn : n ≤ 8) (v : Int32) (h : v < 0 ∨ nI n ≤ v) : MX l yX2_workerAt wsX2_workerAt ({ frames := 6, cells := 1, slots := 6, locals := 90 } : Room) [.ref (q 0), .int v] G (sW G q n nc t fl fd k wd wf wa cd cf) "java/lang/IndexOutOfBoundsException" := by
  refine ofMX (cc := cX2_workerAt) (maxL := 3) (ret := (some (.object "ShortWork$Worker"))) (by decide) rfl (Nat.le_of_ble_eq_true rfl) (fun p e s m below meth c A ls F htb hH hl => ?_)
  have F : Fx G p s m _ meth c cX2_workerAt 3 wsX2_workerAt RX2 A := F
  have hx := F.1.1
  have hb := F.1.2.1
  have hl : lv_has ls 3 [(0, .ref (q 0)), (1, .int v)] := hl
  refine lv_iload_n hx hb dX2_workerAt_0 rfl (lv_at hl 1 rfl) ?_
  refine lv_iconst (v := 0) hx hb dX2_workerAt_1 (by decide) ?_
  refine lv_aload_n hx hb dX2_workerAt_2 rfl (lv_at hl 0 rfl) ?_
  refine rget (C := RX2) (T := TX2) (N := 8) (ref := RX2) F in_X2_workerAt_X2 hH 0 rfl rfl 3 (by decide) (by decide +kernel) (fun _ h9 => h9) (v := .int (nI n)) rfl dX2_workerAt_3 ?_
  refine lv_iconst (v := 1) hx hb dX2_workerAt_6 (by decide) ?_
  refine lv_isub hx hb dX2_workerAt_7 ?_
  refine callSI0 (rest := []) F (c_X2_isWithin_0 l G _ v 0 (nI n - 1) (out_m1 (by omega) h)) gX2_workerAt_X2_isWithin rfl hdX2_isWithin ⟨Nat.le_of_ble_eq_true rfl, Nat.le_of_ble_eq_true rfl⟩ hH rfl hl.1 (Nat.le_of_ble_eq_true rfl) dX2_workerAt_8 ⟨Nat.le_of_ble_eq_true rfl, Nat.le_of_ble_eq_true rfl⟩ rfl (fun u H locs hH => ?_)
  have hH : HH G A s (sW G q n nc t fl fd k wd wf wa cd cf) H locs := hH
  refine lv_if_eq (tgt := 23) hx hb dX2_workerAt_11 (by decide) (fun c_11 => ?_) (fun c_11 => absurd rfl c_11)
  refine lv_null hx hb dX2_workerAt_23 ?_
  refine lv_astore_nN (lv' := [(2, .null), (0, .ref (q 0)), (1, .int v)]) hx hb dX2_workerAt_24 rfl hl (by decide) rfl (fun ls hl => ?_)
  refine lv_aload_nN hx hb dX2_workerAt_25 rfl (lv_at hl 0 rfl) ?_
  refine lv_ifnonnullN hx hb dX2_workerAt_26 ?_
  exact throw0 F hst (names := ["java/lang/RuntimeException", "java/lang/Exception"]) (ik := 141) (ic := 143) (by decide +kernel) (by decide +kernel) (by decide +kernel) (by decide +kernel) thr_X2_workerAt thr_X2_workerAt_c thr_X2_workerAt_ot hH hl.1 dX2_workerAt_29 dX2_workerAt_32 dX2_workerAt_33 dX2_workerAt_36 htb (Nat.le_of_ble_eq_true rfl) (Nat.le_of_ble_eq_true rfl) (Nat.le_of_ble_eq_true rfl) (Nat.le_of_ble_eq_true rfl) (Nat.le_of_ble_eq_true rfl) (Nat.le_of_ble_eq_true rfl)

set_option maxHeartbeats 4000000 in
set_option maxRecDepth 100000 in
theorem c_X2_courseAt_1 (l : Launch) (G : Gx) (q : Nat → Nat) (n nc t : Nat) (fl fd : Int32) (k : Nat → Int32) (wd : Nat → Nat → Nat) (wf : Nat → Nat → Int32) (wa : Nat → Nat → Nat → Int32) (cd : Nat → Nat) (cf : Nat → Nat → Int32) (hn : nc ≤ 10) (i : Nat) (hi : i < nc) : MR l yX2_courseAt wsX2_courseAt ({ frames := 1, cells := 0, slots := 0, locals := 22 } : Room) [.ref (q 0), .int (nI i)] G (sW G q n nc t fl fd k wd wf wa cd cf) (cd i) := by
  refine ofMR (cc := cX2_courseAt) (maxL := 3) (ret := (some (.object "ShortWork$Course"))) (by decide) rfl (Nat.le_of_ble_eq_true rfl) (fun p e s m below meth c A ls F hr hnm hH hl => ?_)
  have F : Fx G p s m _ meth c cX2_courseAt 3 wsX2_courseAt RX2 A := F
  have hx := F.1.1
  have hb := F.1.2.1
  have hl : lv_has ls 3 [(0, .ref (q 0)), (1, .int (nI i))] := hl
  refine lv_iload_n hx hb dX2_courseAt_0 rfl (lv_at hl 1 rfl) ?_
  refine lv_iconst (v := 0) hx hb dX2_courseAt_1 (by decide) ?_
  refine lv_aload_n hx hb dX2_courseAt_2 rfl (lv_at hl 0 rfl) ?_
  refine rget (C := RX2) (T := TX2) (N := 8) (ref := RX2) F in_X2_courseAt_X2 hH 0 rfl rfl 4 (by decide) (by decide +kernel) (fun _ h9 => h9) (v := .int (nI nc)) rfl dX2_courseAt_3 ?_
  refine lv_iconst (v := 1) hx hb dX2_courseAt_6 (by decide) ?_
  refine lv_isub hx hb dX2_courseAt_7 ?_
  refine callSI0 (rest := []) F (c_X2_isWithin_1 l G _ (nI i) 0 (nI nc - 1) (nI_pos' (by omega)) (nI_le_m1 hi (by omega))) gX2_courseAt_X2_isWithin rfl hdX2_isWithin ⟨Nat.le_of_ble_eq_true rfl, Nat.le_of_ble_eq_true rfl⟩ hH rfl hl.1 (Nat.le_of_ble_eq_true rfl) dX2_courseAt_8 ⟨Nat.le_of_ble_eq_true rfl, Nat.le_of_ble_eq_true rfl⟩ rfl (fun u H locs hH => ?_)
  have hH : HH G A s (sW G q n nc t fl fd k wd wf wa cd cf) H locs := hH
  refine lv_if_eq (tgt := 23) hx hb dX2_courseAt_11 (by decide) (fun c_11 => absurd c_11 (by decide)) (fun c_11 => ?_)
  refine lv_aload_n hx hb dX2_courseAt_14 rfl (lv_at hl 0 rfl) ?_
  refine rget (C := RX2) (T := TX2) (N := 8) (ref := RX2) F in_X2_courseAt_X2 hH 0 rfl rfl 1 (by decide) (by decide +kernel) (fun _ h9 => h9) (v := .ref (q 2)) rfl dX2_courseAt_15 ?_
  refine lv_iload_n hx hb dX2_courseAt_18 rfl (lv_at hl 1 rfl) ?_
  refine raald F hH 2 3 rfl rfl i rfl (by omega) (by decide) (v := .ref (cd i)) (rfT_in hi) dX2_courseAt_19 ?_
  refine lv_goto (tgt := 24) hx hb dX2_courseAt_20 (by decide) ?_
  refine lv_astore_n (lv' := [(2, .ref (cd i)), (0, .ref (q 0)), (1, .int (nI i))]) hx hb dX2_courseAt_24 rfl hl (by decide) rfl (fun ls hl => ?_)
  refine lv_aload_n hx hb dX2_courseAt_25 rfl (lv_at hl 0 rfl) ?_
  refine lv_ifnonnull (tgt := 37) hx hb dX2_courseAt_26 (by decide) ?_
  refine lv_aload_n hx hb dX2_courseAt_37 rfl (lv_at hl 0 rfl) ?_
  exact retR F hr hH (Nat.le_of_ble_eq_true rfl) (Nat.le_of_ble_eq_true rfl) dX2_courseAt_38

set_option maxHeartbeats 4000000 in
set_option maxRecDepth 100000 in
theorem c_X2_courseAt_0 (l : Launch) (hst : l.stackTraces = false) (G : Gx) (q : Nat → Nat) (n nc t : Nat) (fl fd : Int32) (k : Nat → Int32) (wd : Nat → Nat → Nat) (wf : Nat → Nat → Int32) (wa : Nat → Nat → Nat → Int32) (cd : Nat → Nat) (cf : Nat → Nat → Int32) (hn : nc ≤ 10) (v : Int32) (h : v < 0 ∨ nI nc ≤ v) : MX l yX2_courseAt wsX2_courseAt ({ frames := 6, cells := 1, slots := 6, locals := 90 } : Room) [.ref (q 0), .int v] G (sW G q n nc t fl fd k wd wf wa cd cf) "java/lang/IndexOutOfBoundsException" := by
  refine ofMX (cc := cX2_courseAt) (maxL := 3) (ret := (some (.object "ShortWork$Course"))) (by decide) rfl (Nat.le_of_ble_eq_true rfl) (fun p e s m below meth c A ls F htb hH hl => ?_)
  have F : Fx G p s m _ meth c cX2_courseAt 3 wsX2_courseAt RX2 A := F
  have hx := F.1.1
  have hb := F.1.2.1
  have hl : lv_has ls 3 [(0, .ref (q 0)), (1, .int v)] := hl
  refine lv_iload_n hx hb dX2_courseAt_0 rfl (lv_at hl 1 rfl) ?_
  refine lv_iconst (v := 0) hx hb dX2_courseAt_1 (by decide) ?_
  refine lv_aload_n hx hb dX2_courseAt_2 rfl (lv_at hl 0 rfl) ?_
  refine rget (C := RX2) (T := TX2) (N := 8) (ref := RX2) F in_X2_courseAt_X2 hH 0 rfl rfl 4 (by decide) (by decide +kernel) (fun _ h9 => h9) (v := .int (nI nc)) rfl dX2_courseAt_3 ?_
  refine lv_iconst (v := 1) hx hb dX2_courseAt_6 (by decide) ?_
  refine lv_isub hx hb dX2_courseAt_7 ?_
  refine callSI0 (rest := []) F (c_X2_isWithin_0 l G _ v 0 (nI nc - 1) (out_m1 (by omega) h)) gX2_courseAt_X2_isWithin rfl hdX2_isWithin ⟨Nat.le_of_ble_eq_true rfl, Nat.le_of_ble_eq_true rfl⟩ hH rfl hl.1 (Nat.le_of_ble_eq_true rfl) dX2_courseAt_8 ⟨Nat.le_of_ble_eq_true rfl, Nat.le_of_ble_eq_true rfl⟩ rfl (fun u H locs hH => ?_)
  have hH : HH G A s (sW G q n nc t fl fd k wd wf wa cd cf) H locs := hH
  refine lv_if_eq (tgt := 23) hx hb dX2_courseAt_11 (by decide) (fun c_11 => ?_) (fun c_11 => absurd rfl c_11)
  refine lv_null hx hb dX2_courseAt_23 ?_
  refine lv_astore_nN (lv' := [(2, .null), (0, .ref (q 0)), (1, .int v)]) hx hb dX2_courseAt_24 rfl hl (by decide) rfl (fun ls hl => ?_)
  refine lv_aload_nN hx hb dX2_courseAt_25 rfl (lv_at hl 0 rfl) ?_
  refine lv_ifnonnullN hx hb dX2_courseAt_26 ?_
  exact throw0 F hst (names := ["java/lang/RuntimeException", "java/lang/Exception"]) (ik := 141) (ic := 143) (by decide +kernel) (by decide +kernel) (by decide +kernel) (by decide +kernel) thr_X2_courseAt thr_X2_courseAt_c thr_X2_courseAt_ot hH hl.1 dX2_courseAt_29 dX2_courseAt_32 dX2_courseAt_33 dX2_courseAt_36 htb (Nat.le_of_ble_eq_true rfl) (Nat.le_of_ble_eq_true rfl) (Nat.le_of_ble_eq_true rfl) (Nat.le_of_ble_eq_true rfl) (Nat.le_of_ble_eq_true rfl) (Nat.le_of_ble_eq_true rfl)

set_option maxHeartbeats 4000000 in
set_option maxRecDepth 100000 in
theorem c_X2_workers (l : Launch) (G : Gx) (q : Nat → Nat) (n nc t : Nat) (fl fd : Int32) (k : Nat → Int32) (wd : Nat → Nat → Nat) (wf : Nat → Nat → Int32) (wa : Nat → Nat → Nat → Int32) (cd : Nat → Nat) (cf : Nat → Nat → Int32) : MI l yX2_workers wsX2_workers ({ frames := 0, cells := 0, slots := 0, locals := 0 } : Room) [.ref (q 0)] G (sW G q n nc t fl fd k wd wf wa cd cf) (fun u => sW G q n nc t fl fd k wd wf wa cd cf) (nI n) := by
  refine ofMI (cc := cX2_workers) (maxL := 1) (ret := (some .int)) (by decide) rfl (Nat.le_of_ble_eq_true rfl) (fun p e s m below meth c A ls F hr hnm hH hl => ?_)
  have F : Fx G p s m _ meth c cX2_workers 1 wsX2_workers RX2 A := F
  have hx := F.1.1
  have hb := F.1.2.1
  have hl : lv_has ls 1 [(0, .ref (q 0))] := hl
  refine lv_aload_n hx hb dX2_workers_0 rfl (lv_at hl 0 rfl) ?_
  refine rget (C := RX2) (T := TX2) (N := 8) (ref := RX2) F in_X2_workers_X2 hH 0 rfl rfl 3 (by decide) (by decide +kernel) (fun _ h9 => h9) (v := .int (nI n)) rfl dX2_workers_1 ?_
  exact retI F hr rfl (fun _ => 0) hH rfl (Nat.le_of_ble_eq_true rfl) (Nat.le_of_ble_eq_true rfl) dX2_workers_4

set_option maxHeartbeats 4000000 in
set_option maxRecDepth 100000 in
theorem c_X2_week (l : Launch) (G : Gx) (q : Nat → Nat) (n nc t : Nat) (fl fd : Int32) (k : Nat → Int32) (wd : Nat → Nat → Nat) (wf : Nat → Nat → Int32) (wa : Nat → Nat → Nat → Int32) (cd : Nat → Nat) (cf : Nat → Nat → Int32) : MI l yX2_week wsX2_week ({ frames := 0, cells := 0, slots := 0, locals := 0 } : Room) [.ref (q 0)] G (sW G q n nc t fl fd k wd wf wa cd cf) (fun u => sW G q n nc t fl fd k wd wf wa cd cf) (nI t) := by
  refine ofMI (cc := cX2_week) (maxL := 1) (ret := (some .int)) (by decide) rfl (Nat.le_of_ble_eq_true rfl) (fun p e s m below meth c A ls F hr hnm hH hl => ?_)
  have F : Fx G p s m _ meth c cX2_week 1 wsX2_week RX2 A := F
  have hx := F.1.1
  have hb := F.1.2.1
  have hl : lv_has ls 1 [(0, .ref (q 0))] := hl
  refine lv_aload_n hx hb dX2_week_0 rfl (lv_at hl 0 rfl) ?_
  refine rget (C := RX2) (T := TX2) (N := 8) (ref := RX2) F in_X2_week_X2 hH 0 rfl rfl 5 (by decide) (by decide +kernel) (fun _ h9 => h9) (v := .int (nI t)) rfl dX2_week_1 ?_
  exact retI F hr rfl (fun _ => 0) hH rfl (Nat.le_of_ble_eq_true rfl) (Nat.le_of_ble_eq_true rfl) dX2_week_4

set_option maxHeartbeats 4000000 in
set_option maxRecDepth 100000 in
theorem c_X2_firmOwes (l : Launch) (G : Gx) (q : Nat → Nat) (n nc t : Nat) (fl fd : Int32) (k : Nat → Int32) (wd : Nat → Nat → Nat) (wf : Nat → Nat → Int32) (wa : Nat → Nat → Nat → Int32) (cd : Nat → Nat) (cf : Nat → Nat → Int32) : MI l yX2_firmOwes wsX2_firmOwes ({ frames := 0, cells := 0, slots := 0, locals := 0 } : Room) [.ref (q 0)] G (sW G q n nc t fl fd k wd wf wa cd cf) (fun u => sW G q n nc t fl fd k wd wf wa cd cf) fd := by
  refine ofMI (cc := cX2_firmOwes) (maxL := 1) (ret := (some .int)) (by decide) rfl (Nat.le_of_ble_eq_true rfl) (fun p e s m below meth c A ls F hr hnm hH hl => ?_)
  have F : Fx G p s m _ meth c cX2_firmOwes 1 wsX2_firmOwes RX2 A := F
  have hx := F.1.1
  have hb := F.1.2.1
  have hl : lv_has ls 1 [(0, .ref (q 0))] := hl
  refine lv_aload_n hx hb dX2_firmOwes_0 rfl (lv_at hl 0 rfl) ?_
  refine rget (C := RX2) (T := TX2) (N := 8) (ref := RX2) F in_X2_firmOwes_X2 hH 0 rfl rfl 7 (by decide) (by decide +kernel) (fun _ h9 => h9) (v := .int fd) rfl dX2_firmOwes_1 ?_
  exact retI F hr rfl (fun _ => 0) hH rfl (Nat.le_of_ble_eq_true rfl) (Nat.le_of_ble_eq_true rfl) dX2_firmOwes_4

set_option maxHeartbeats 4000000 in
set_option maxRecDepth 100000 in
theorem c_X1_stepPercent (l : Launch) (G : Gx) (d : Nat → Nat) (f : Nat → Int32) (a : Nat → Nat → Int32) : MI l yX1_stepPercent wsX1_stepPercent ({ frames := 0, cells := 0, slots := 0, locals := 0 } : Room) [.ref (d 0)] G (wW G d f a) (fun u => wW G d f a) (stepP (f 9)) := by
  refine ofMI (cc := cX1_stepPercent) (maxL := 1) (ret := (some .int)) (by decide) rfl (Nat.le_of_ble_eq_true rfl) (fun p e s m below meth c A ls F hr hnm hH hl => ?_)
  have F : Fx G p s m _ meth c cX1_stepPercent 1 wsX1_stepPercent RX1 A := F
  have hx := F.1.1
  have hb := F.1.2.1
  have hl : lv_has ls 1 [(0, .ref (d 0))] := hl
  refine lv_aload_n hx hb dX1_stepPercent_0 rfl (lv_at hl 0 rfl) ?_
  refine rget (C := RX1) (T := TX1) (N := 12) (ref := RX1) F in_X1_stepPercent_X1 hH 0 rfl rfl 9 (by decide) (by decide +kernel) (fun _ h9 => h9) (v := .int (f 9)) rfl dX1_stepPercent_1 ?_
  refine lv_bipush (v := 24) hx hb dX1_stepPercent_4 (by decide) ?_
  refine lv_icmp_lt (tgt := 12) hx hb dX1_stepPercent_6 (by decide) (fun c_6 => ?_) (fun c_6 => ?_)
  · refine lv_aload_n hx hb dX1_stepPercent_12 rfl (lv_at hl 0 rfl) ?_
    refine rget (C := RX1) (T := TX1) (N := 12) (ref := RX1) F in_X1_stepPercent_X1 hH 0 rfl rfl 9 (by decide) (by decide +kernel) (fun _ h9 => h9) (v := .int (f 9)) rfl dX1_stepPercent_13 ?_
    refine lv_bipush (v := 12) hx hb dX1_stepPercent_16 (by decide) ?_
    refine lv_icmp_lt (tgt := 26) hx hb dX1_stepPercent_18 (by decide) (fun c_18 => ?_) (fun c_18 => ?_)
    · refine lv_bipush (v := 60) hx hb dX1_stepPercent_26 (by decide) ?_
      exact retI F hr rfl (fun _ => 0) hH (by unfold stepP; rw [if_pos c_6, if_pos c_18]) (Nat.le_of_ble_eq_true rfl) (Nat.le_of_ble_eq_true rfl) dX1_stepPercent_28
    · refine lv_bipush (v := 70) hx hb dX1_stepPercent_21 (by decide) ?_
      refine lv_goto (tgt := 28) hx hb dX1_stepPercent_23 (by decide) ?_
      exact retI F hr rfl (fun _ => 0) hH (by unfold stepP; rw [if_pos c_6, if_neg c_18]) (Nat.le_of_ble_eq_true rfl) (Nat.le_of_ble_eq_true rfl) dX1_stepPercent_28
  · refine lv_bipush (v := 80) hx hb dX1_stepPercent_9 (by decide) ?_
    exact retI F hr rfl (fun _ => 0) hH (by unfold stepP; rw [if_neg c_6]) (Nat.le_of_ble_eq_true rfl) (Nat.le_of_ble_eq_true rfl) dX1_stepPercent_11

set_option maxHeartbeats 4000000 in
set_option maxRecDepth 100000 in
theorem c_X1_hasFilled (l : Launch) (G : Gx) (d : Nat → Nat) (f : Nat → Int32) (a : Nat → Nat → Int32) (j : Nat) (hj : j < 201) : MI l yX1_hasFilled wsX1_hasFilled ({ frames := 0, cells := 0, slots := 0, locals := 0 } : Room) [.ref (d 0), .int (nI j)] G (wW G d f a) (fun u => wW G d f a) (fillB (a 3 j) (a 2 j)) := by
  refine ofMI (cc := cX1_hasFilled) (maxL := 2) (ret := (some .boolean)) (by decide) rfl (Nat.le_of_ble_eq_true rfl) (fun p e s m below meth c A ls F hr hnm hH hl => ?_)
  have F : Fx G p s m _ meth c cX1_hasFilled 2 wsX1_hasFilled RX1 A := F
  have hx := F.1.1
  have hb := F.1.2.1
  have hl : lv_has ls 2 [(0, .ref (d 0)), (1, .int (nI j))] := hl
  refine lv_aload_n hx hb dX1_hasFilled_0 rfl (lv_at hl 0 rfl) ?_
  refine rget (C := RX1) (T := TX1) (N := 12) (ref := RX1) F in_X1_hasFilled_X1 hH 0 rfl rfl 3 (by decide) (by decide +kernel) (fun _ h9 => h9) (v := .ref (d 3)) rfl dX1_hasFilled_1 ?_
  refine lv_iload_n hx hb dX1_hasFilled_4 rfl (lv_at hl 1 rfl) ?_
  refine riald F hH 2 (n := 201) (f := a 3) rfl j rfl hj (by decide) dX1_hasFilled_5 ?_
  refine lv_if_le (tgt := 30) hx hb dX1_hasFilled_6 (by decide) (fun c_6 => ?_) (fun c_6 => ?_)
  · refine lv_iconst (v := 0) hx hb dX1_hasFilled_30 (by decide) ?_
    exact retI F hr rfl (fun _ => 0) hH (by unfold fillB; rw [if_pos c_6]) (Nat.le_of_ble_eq_true rfl) (Nat.le_of_ble_eq_true rfl) dX1_hasFilled_31
  · refine lv_iconst (v := 2) hx hb dX1_hasFilled_9 (by decide) ?_
    refine lv_aload_n hx hb dX1_hasFilled_10 rfl (lv_at hl 0 rfl) ?_
    refine rget (C := RX1) (T := TX1) (N := 12) (ref := RX1) F in_X1_hasFilled_X1 hH 0 rfl rfl 3 (by decide) (by decide +kernel) (fun _ h9 => h9) (v := .ref (d 3)) rfl dX1_hasFilled_11 ?_
    refine lv_iload_n hx hb dX1_hasFilled_14 rfl (lv_at hl 1 rfl) ?_
    refine riald F hH 2 (n := 201) (f := a 3) rfl j rfl hj (by decide) dX1_hasFilled_15 ?_
    refine lv_imul hx hb dX1_hasFilled_16 ?_
    refine lv_aload_n hx hb dX1_hasFilled_17 rfl (lv_at hl 0 rfl) ?_
    refine rget (C := RX1) (T := TX1) (N := 12) (ref := RX1) F in_X1_hasFilled_X1 hH 0 rfl rfl 2 (by decide) (by decide +kernel) (fun _ h9 => h9) (v := .ref (d 2)) rfl dX1_hasFilled_18 ?_
    refine lv_iload_n hx hb dX1_hasFilled_21 rfl (lv_at hl 1 rfl) ?_
    refine riald F hH 1 (n := 201) (f := a 2) rfl j rfl hj (by decide) dX1_hasFilled_22 ?_
    refine lv_icmp_lt (tgt := 30) hx hb dX1_hasFilled_23 (by decide) (fun c_23 => ?_) (fun c_23 => ?_)
    · refine lv_iconst (v := 0) hx hb dX1_hasFilled_30 (by decide) ?_
      exact retI F hr rfl (fun _ => 0) hH (by unfold fillB; rw [if_neg c_6, if_pos c_23]) (Nat.le_of_ble_eq_true rfl) (Nat.le_of_ble_eq_true rfl) dX1_hasFilled_31
    · refine lv_iconst (v := 1) hx hb dX1_hasFilled_26 (by decide) ?_
      refine lv_goto (tgt := 31) hx hb dX1_hasFilled_27 (by decide) ?_
      exact retI F hr rfl (fun _ => 0) hH (by unfold fillB; rw [if_neg c_6, if_neg c_23]) (Nat.le_of_ble_eq_true rfl) (Nat.le_of_ble_eq_true rfl) dX1_hasFilled_31

set_option maxHeartbeats 4000000 in
set_option maxRecDepth 100000 in
theorem c_X1_hasWorkedTooMuch (l : Launch) (G : Gx) (d : Nat → Nat) (f : Nat → Int32) (a : Nat → Nat → Int32) (j : Nat) (hj : j < 201) : MI l yX1_hasWorkedTooMuch wsX1_hasWorkedTooMuch ({ frames := 0, cells := 0, slots := 0, locals := 0 } : Room) [.ref (d 0), .int (nI j)] G (wW G d f a) (fun u => wW G d f a) (muchB (a 2 j) (a 6 j) (a 5 j)) := by
  refine ofMI (cc := cX1_hasWorkedTooMuch) (maxL := 3) (ret := (some .boolean)) (by decide) rfl (Nat.le_of_ble_eq_true rfl) (fun p e s m below meth c A ls F hr hnm hH hl => ?_)
  have F : Fx G p s m _ meth c cX1_hasWorkedTooMuch 3 wsX1_hasWorkedTooMuch RX1 A := F
  have hx := F.1.1
  have hb := F.1.2.1
  have hl : lv_has ls 3 [(0, .ref (d 0)), (1, .int (nI j))] := hl
  refine lv_bipush (v := 40) hx hb dX1_hasWorkedTooMuch_0 (by decide) ?_
  refine lv_aload_n hx hb dX1_hasWorkedTooMuch_2 rfl (lv_at hl 0 rfl) ?_
  refine rget (C := RX1) (T := TX1) (N := 12) (ref := RX1) F in_X1_hasWorkedTooMuch_X1 hH 0 rfl rfl 2 (by decide) (by decide +kernel) (fun _ h9 => h9) (v := .ref (d 2)) rfl dX1_hasWorkedTooMuch_3 ?_
  refine lv_iload_n hx hb dX1_hasWorkedTooMuch_6 rfl (lv_at hl 1 rfl) ?_
  refine riald F hH 1 (n := 201) (f := a 2) rfl j rfl hj (by decide) dX1_hasWorkedTooMuch_7 ?_
  refine lv_isub hx hb dX1_hasWorkedTooMuch_8 ?_
  refine lv_iconst (v := 2) hx hb dX1_hasWorkedTooMuch_9 (by decide) ?_
  refine lv_iadd hx hb dX1_hasWorkedTooMuch_10 ?_
  refine lv_istore_n (lv' := [(2, .int ((40 - (a 2 j)) + 2)), (0, .ref (d 0)), (1, .int (nI j))]) hx hb dX1_hasWorkedTooMuch_11 rfl hl (by decide) rfl (fun ls hl => ?_)
  refine lv_aload_n hx hb dX1_hasWorkedTooMuch_12 rfl (lv_at hl 1 rfl) ?_
  refine rget (C := RX1) (T := TX1) (N := 12) (ref := RX1) F in_X1_hasWorkedTooMuch_X1 hH 0 rfl rfl 6 (by decide) (by decide +kernel) (fun _ h9 => h9) (v := .ref (d 6)) rfl dX1_hasWorkedTooMuch_13 ?_
  refine lv_iload_n hx hb dX1_hasWorkedTooMuch_16 rfl (lv_at hl 2 rfl) ?_
  refine riald F hH 5 (n := 201) (f := a 6) rfl j rfl hj (by decide) dX1_hasWorkedTooMuch_17 ?_
  refine lv_iload_n hx hb dX1_hasWorkedTooMuch_18 rfl (lv_at hl 0 rfl) ?_
  refine lv_icmp_le (tgt := 35) hx hb dX1_hasWorkedTooMuch_19 (by decide) (fun c_19 => ?_) (fun c_19 => ?_)
  · refine lv_iconst (v := 0) hx hb dX1_hasWorkedTooMuch_35 (by decide) ?_
    exact retI F hr rfl (fun _ => 0) hH (by unfold muchB; rw [if_pos c_19]) (Nat.le_of_ble_eq_true rfl) (Nat.le_of_ble_eq_true rfl) dX1_hasWorkedTooMuch_36
  · refine lv_aload_n hx hb dX1_hasWorkedTooMuch_22 rfl (lv_at hl 1 rfl) ?_
    refine rget (C := RX1) (T := TX1) (N := 12) (ref := RX1) F in_X1_hasWorkedTooMuch_X1 hH 0 rfl rfl 5 (by decide) (by decide +kernel) (fun _ h9 => h9) (v := .ref (d 5)) rfl dX1_hasWorkedTooMuch_23 ?_
    refine lv_iload_n hx hb dX1_hasWorkedTooMuch_26 rfl (lv_at hl 2 rfl) ?_
    refine riald F hH 4 (n := 201) (f := a 5) rfl j rfl hj (by decide) dX1_hasWorkedTooMuch_27 ?_
    refine lv_if_le (tgt := 35) hx hb dX1_hasWorkedTooMuch_28 (by decide) (fun c_28 => ?_) (fun c_28 => ?_)
    · refine lv_iconst (v := 0) hx hb dX1_hasWorkedTooMuch_35 (by decide) ?_
      exact retI F hr rfl (fun _ => 0) hH (by unfold muchB; rw [if_neg c_19, if_pos c_28]) (Nat.le_of_ble_eq_true rfl) (Nat.le_of_ble_eq_true rfl) dX1_hasWorkedTooMuch_36
    · refine lv_iconst (v := 1) hx hb dX1_hasWorkedTooMuch_31 (by decide) ?_
      refine lv_goto (tgt := 36) hx hb dX1_hasWorkedTooMuch_32 (by decide) ?_
      exact retI F hr rfl (fun _ => 0) hH (by unfold muchB; rw [if_neg c_19, if_neg c_28]) (Nat.le_of_ble_eq_true rfl) (Nat.le_of_ble_eq_true rfl) dX1_hasWorkedTooMuch_36

set_option maxHeartbeats 4000000 in
set_option maxRecDepth 100000 in
theorem c_X1_madeUpPercent (l : Launch) (G : Gx) (d : Nat → Nat) (f : Nat → Int32) (a : Nat → Nat → Int32) (j : Nat) (hj : j < 201) : MI l yX1_madeUpPercent wsX1_madeUpPercent ({ frames := 1, cells := 0, slots := 0, locals := 21 } : Room) [.ref (d 0), .int (nI j)] G (wW G d f a) (fun u => wW G d f a) (pctS (f 1) (f 9) (fillB (a 3 j) (a 2 j))) := by
  refine ofMI (cc := cX1_madeUpPercent) (maxL := 3) (ret := (some .int)) (by decide) rfl (Nat.le_of_ble_eq_true rfl) (fun p e s m below meth c A ls F hr hnm hH hl => ?_)
  have F : Fx G p s m _ meth c cX1_madeUpPercent 3 wsX1_madeUpPercent RX1 A := F
  have hx := F.1.1
  have hb := F.1.2.1
  have hl : lv_has ls 3 [(0, .ref (d 0)), (1, .int (nI j))] := hl
  refine lv_aload_n hx hb dX1_madeUpPercent_0 rfl (lv_at hl 0 rfl) ?_
  refine callVI0 (rest := []) F (c_X1_stepPercent l G d f a) gX1_madeUpPercent_X1_stepPercent rfl hdX1_stepPercent ⟨Nat.le_of_ble_eq_true rfl, Nat.le_of_ble_eq_true rfl⟩ hH ⟨0, 1, _, _, rfl, rfl, rfl⟩ rfl hl.1 (Nat.le_of_ble_eq_true rfl) dX1_madeUpPercent_1 ⟨Nat.le_of_ble_eq_true rfl, Nat.le_of_ble_eq_true rfl⟩ rfl (fun u H locs hH => ?_)
  have hH : HH G A s (wW G d f a) H locs := hH
  refine lv_istore_n (lv' := [(2, .int (stepP (f 9))), (0, .ref (d 0)), (1, .int (nI j))]) hx hb dX1_madeUpPercent_4 rfl hl (by decide) rfl (fun ls hl => ?_)
  refine lv_aload_n hx hb dX1_madeUpPercent_5 rfl (lv_at hl 1 rfl) ?_
  refine rget (C := RX1) (T := TX1) (N := 12) (ref := RX1) F in_X1_madeUpPercent_X1 hH 0 rfl rfl 1 (by decide) (by decide +kernel) (fun _ h9 => h9) (v := .int (f 1)) rfl dX1_madeUpPercent_6 ?_
  refine lv_if_eq (tgt := 15) hx hb dX1_madeUpPercent_9 (by decide) (fun c_9 => ?_) (fun c_9 => ?_)
  · refine lv_aload_n hx hb dX1_madeUpPercent_15 rfl (lv_at hl 1 rfl) ?_
    refine lv_iload_n hx hb dX1_madeUpPercent_16 rfl (lv_at hl 2 rfl) ?_
    refine callVI0 (rest := []) F (c_X1_hasFilled l G d f a j hj) gX1_madeUpPercent_X1_hasFilled rfl hdX1_hasFilled ⟨Nat.le_of_ble_eq_true rfl, Nat.le_of_ble_eq_true rfl⟩ hH ⟨0, 1, _, _, rfl, rfl, rfl⟩ rfl hl.1 (Nat.le_of_ble_eq_true rfl) dX1_madeUpPercent_17 ⟨Nat.le_of_ble_eq_true rfl, Nat.le_of_ble_eq_true rfl⟩ rfl (fun u H locs hH => ?_)
    have hH : HH G A s (wW G d f a) H locs := hH
    refine lv_if_eq (tgt := 29) hx hb dX1_madeUpPercent_20 (by decide) (fun c_20 => ?_) (fun c_20 => ?_)
    · refine lv_aload_n hx hb dX1_madeUpPercent_29 rfl (lv_at hl 1 rfl) ?_
      refine rget (C := RX1) (T := TX1) (N := 12) (ref := RX1) F in_X1_madeUpPercent_X1 hH 0 rfl rfl 9 (by decide) (by decide +kernel) (fun _ h9 => h9) (v := .int (f 9)) rfl dX1_madeUpPercent_30 ?_
      refine lv_bipush (v := 12) hx hb dX1_madeUpPercent_33 (by decide) ?_
      refine lv_icmp_lt (tgt := 41) hx hb dX1_madeUpPercent_35 (by decide) (fun c_35 => ?_) (fun c_35 => ?_)
      · refine lv_iload_n hx hb dX1_madeUpPercent_41 rfl (lv_at hl 0 rfl) ?_
        exact retI F hr rfl (fun _ => 0) hH (by unfold pctS; dsimp only; rw [if_pos c_20, if_pos c_35, if_pos c_9]) (Nat.le_of_ble_eq_true rfl) (Nat.le_of_ble_eq_true rfl) dX1_madeUpPercent_42
      · refine lv_iinc (v := ((stepP (f 9)) + (-10))) (lv' := [(2, .int ((stepP (f 9)) + (-10))), (0, .ref (d 0)), (1, .int (nI j))]) hx hb dX1_madeUpPercent_38 hl (k := 0) rfl rfl (by decide) rfl (fun ls hl => ?_)
        refine lv_iload_n hx hb dX1_madeUpPercent_41 rfl (lv_at hl 0 rfl) ?_
        exact retI F hr rfl (fun _ => 0) hH (by unfold pctS; dsimp only; rw [if_pos c_20, if_neg c_35, if_pos c_9]) (Nat.le_of_ble_eq_true rfl) (Nat.le_of_ble_eq_true rfl) dX1_madeUpPercent_42
    · refine lv_iinc (v := ((stepP (f 9)) + 5)) (lv' := [(2, .int ((stepP (f 9)) + 5)), (0, .ref (d 0)), (1, .int (nI j))]) hx hb dX1_madeUpPercent_23 hl (k := 0) rfl rfl (by decide) rfl (fun ls hl => ?_)
      refine lv_goto (tgt := 41) hx hb dX1_madeUpPercent_26 (by decide) ?_
      refine lv_iload_n hx hb dX1_madeUpPercent_41 rfl (lv_at hl 0 rfl) ?_
      exact retI F hr rfl (fun _ => 0) hH (by unfold pctS; dsimp only; rw [if_neg c_20, if_pos c_9]) (Nat.le_of_ble_eq_true rfl) (Nat.le_of_ble_eq_true rfl) dX1_madeUpPercent_42
  · refine lv_iinc (v := ((stepP (f 9)) + 7)) (lv' := [(2, .int ((stepP (f 9)) + 7)), (0, .ref (d 0)), (1, .int (nI j))]) hx hb dX1_madeUpPercent_12 hl (k := 0) rfl rfl (by decide) rfl (fun ls hl => ?_)
    refine lv_aload_n hx hb dX1_madeUpPercent_15 rfl (lv_at hl 1 rfl) ?_
    refine lv_iload_n hx hb dX1_madeUpPercent_16 rfl (lv_at hl 2 rfl) ?_
    refine callVI0 (rest := []) F (c_X1_hasFilled l G d f a j hj) gX1_madeUpPercent_X1_hasFilled rfl hdX1_hasFilled ⟨Nat.le_of_ble_eq_true rfl, Nat.le_of_ble_eq_true rfl⟩ hH ⟨0, 1, _, _, rfl, rfl, rfl⟩ rfl hl.1 (Nat.le_of_ble_eq_true rfl) dX1_madeUpPercent_17 ⟨Nat.le_of_ble_eq_true rfl, Nat.le_of_ble_eq_true rfl⟩ rfl (fun u H locs hH => ?_)
    have hH : HH G A s (wW G d f a) H locs := hH
    refine lv_if_eq (tgt := 29) hx hb dX1_madeUpPercent_20 (by decide) (fun c_20 => ?_) (fun c_20 => ?_)
    · refine lv_aload_n hx hb dX1_madeUpPercent_29 rfl (lv_at hl 1 rfl) ?_
      refine rget (C := RX1) (T := TX1) (N := 12) (ref := RX1) F in_X1_madeUpPercent_X1 hH 0 rfl rfl 9 (by decide) (by decide +kernel) (fun _ h9 => h9) (v := .int (f 9)) rfl dX1_madeUpPercent_30 ?_
      refine lv_bipush (v := 12) hx hb dX1_madeUpPercent_33 (by decide) ?_
      refine lv_icmp_lt (tgt := 41) hx hb dX1_madeUpPercent_35 (by decide) (fun c_35 => ?_) (fun c_35 => ?_)
      · refine lv_iload_n hx hb dX1_madeUpPercent_41 rfl (lv_at hl 0 rfl) ?_
        exact retI F hr rfl (fun _ => 0) hH (by unfold pctS; dsimp only; rw [if_pos c_20, if_pos c_35, if_neg c_9]) (Nat.le_of_ble_eq_true rfl) (Nat.le_of_ble_eq_true rfl) dX1_madeUpPercent_42
      · refine lv_iinc (v := (((stepP (f 9)) + 7) + (-10))) (lv' := [(2, .int (((stepP (f 9)) + 7) + (-10))), (0, .ref (d 0)), (1, .int (nI j))]) hx hb dX1_madeUpPercent_38 hl (k := 0) rfl rfl (by decide) rfl (fun ls hl => ?_)
        refine lv_iload_n hx hb dX1_madeUpPercent_41 rfl (lv_at hl 0 rfl) ?_
        exact retI F hr rfl (fun _ => 0) hH (by unfold pctS; dsimp only; rw [if_pos c_20, if_neg c_35, if_neg c_9]) (Nat.le_of_ble_eq_true rfl) (Nat.le_of_ble_eq_true rfl) dX1_madeUpPercent_42
    · refine lv_iinc (v := (((stepP (f 9)) + 7) + 5)) (lv' := [(2, .int (((stepP (f 9)) + 7) + 5)), (0, .ref (d 0)), (1, .int (nI j))]) hx hb dX1_madeUpPercent_23 hl (k := 0) rfl rfl (by decide) rfl (fun ls hl => ?_)
      refine lv_goto (tgt := 41) hx hb dX1_madeUpPercent_26 (by decide) ?_
      refine lv_iload_n hx hb dX1_madeUpPercent_41 rfl (lv_at hl 0 rfl) ?_
      exact retI F hr rfl (fun _ => 0) hH (by unfold pctS; dsimp only; rw [if_neg c_20, if_neg c_9]) (Nat.le_of_ble_eq_true rfl) (Nat.le_of_ble_eq_true rfl) dX1_madeUpPercent_42

set_option maxHeartbeats 4000000 in
set_option maxRecDepth 100000 in
theorem c_X1_payFor (l : Launch) (G : Gx) (d : Nat → Nat) (f : Nat → Int32) (a : Nat → Nat → Int32) (j : Nat) (hj : j < 201) (fl : Int32) : MI l yX1_payFor wsX1_payFor ({ frames := 2, cells := 0, slots := 0, locals := 43 } : Room) [.ref (d 0), .int (nI j), .int fl] G (wW G d f a) (fun u => wW G d (va_up (va_up f 10 (f 10 + (firmP (f 0) (a 2 j) + fundP (f 0) (a 2 j) (pctS (f 1) (f 9) (fillB (a 3 j) (a 2 j))) fl))) 9 (if a 2 j ≤ 0 then f 9 else f 9 + 1)) (va_up (va_up a 4 (upd (a 4) j (firmP (f 0) (a 2 j)))) 5 (upd (a 5) j (fundP (f 0) (a 2 j) (pctS (f 1) (f 9) (fillB (a 3 j) (a 2 j))) fl)))) (fundP (f 0) (a 2 j) (pctS (f 1) (f 9) (fillB (a 3 j) (a 2 j))) fl) := by
  refine ofMI (cc := cX1_payFor) (maxL := 6) (ret := (some .int)) (by decide) rfl (Nat.le_of_ble_eq_true rfl) (fun p e s m below meth c A ls F hr hnm hH hl => ?_)
  have F : Fx G p s m _ meth c cX1_payFor 6 wsX1_payFor RX1 A := F
  have hx := F.1.1
  have hb := F.1.2.1
  have hl : lv_has ls 6 [(0, .ref (d 0)), (1, .int (nI j)), (2, .int fl)] := hl
  refine lv_aload_n hx hb dX1_payFor_0 rfl (lv_at hl 0 rfl) ?_
  refine rget (C := RX1) (T := TX1) (N := 12) (ref := RX1) F in_X1_payFor_X1 hH 0 rfl rfl 0 (by decide) (by decide +kernel) (fun _ h9 => h9) (v := .int (f 0)) rfl dX1_payFor_1 ?_
  refine lv_bipush (v := 40) hx hb dX1_payFor_4 (by decide) ?_
  refine lv_aload_n hx hb dX1_payFor_6 rfl (lv_at hl 0 rfl) ?_
  refine rget (C := RX1) (T := TX1) (N := 12) (ref := RX1) F in_X1_payFor_X1 hH 0 rfl rfl 2 (by decide) (by decide +kernel) (fun _ h9 => h9) (v := .ref (d 2)) rfl dX1_payFor_7 ?_
  refine lv_iload_n hx hb dX1_payFor_10 rfl (lv_at hl 1 rfl) ?_
  refine riald F hH 1 (n := 201) (f := a 2) rfl j rfl hj (by decide) dX1_payFor_11 ?_
  refine lv_isub hx hb dX1_payFor_12 ?_
  refine lv_imul hx hb dX1_payFor_13 ?_
  refine lv_bipush (v := 40) hx hb dX1_payFor_14 (by decide) ?_
  refine lv_idiv hx hb dX1_payFor_16 (by decide) ?_
  refine lv_istore_n (lv' := [(3, .int (((f 0) * (40 - (a 2 j))) / 40)), (0, .ref (d 0)), (1, .int (nI j)), (2, .int fl)]) hx hb dX1_payFor_17 rfl hl (by decide) rfl (fun ls hl => ?_)
  refine lv_aload_n hx hb dX1_payFor_18 rfl (lv_at hl 1 rfl) ?_
  refine rget (C := RX1) (T := TX1) (N := 12) (ref := RX1) F in_X1_payFor_X1 hH 0 rfl rfl 0 (by decide) (by decide +kernel) (fun _ h9 => h9) (v := .int (f 0)) rfl dX1_payFor_19 ?_
  refine lv_iload_n hx hb dX1_payFor_22 rfl (lv_at hl 0 rfl) ?_
  refine lv_isub hx hb dX1_payFor_23 ?_
  refine lv_aload_n hx hb dX1_payFor_24 rfl (lv_at hl 1 rfl) ?_
  refine lv_iload_n hx hb dX1_payFor_25 rfl (lv_at hl 2 rfl) ?_
  refine callVI0 (rest := [.int ((f 0) - (((f 0) * (40 - (a 2 j))) / 40))]) F (c_X1_madeUpPercent l G d f a j hj) gX1_payFor_X1_madeUpPercent rfl hdX1_madeUpPercent ⟨Nat.le_of_ble_eq_true rfl, Nat.le_of_ble_eq_true rfl⟩ hH ⟨0, 1, _, _, rfl, rfl, rfl⟩ rfl hl.1 (Nat.le_of_ble_eq_true rfl) dX1_payFor_26 ⟨Nat.le_of_ble_eq_true rfl, Nat.le_of_ble_eq_true rfl⟩ rfl (fun u H locs hH => ?_)
  have hH : HH G A s (wW G d f a) H locs := hH
  refine lv_imul hx hb dX1_payFor_29 ?_
  refine lv_bipush (v := 100) hx hb dX1_payFor_30 (by decide) ?_
  refine lv_idiv hx hb dX1_payFor_32 (by decide) ?_
  refine lv_istore (lv' := [(4, .int ((((f 0) - (((f 0) * (40 - (a 2 j))) / 40)) * (pctS (f 1) (f 9) (fillB (a 3 j) (a 2 j)))) / 100)), (3, .int (((f 0) * (40 - (a 2 j))) / 40)), (0, .ref (d 0)), (1, .int (nI j)), (2, .int fl)]) hx hb dX1_payFor_33 hl (by decide) rfl (fun ls hl => ?_)
  refine lv_aload_n hx hb dX1_payFor_35 rfl (lv_at hl 2 rfl) ?_
  refine rget (C := RX1) (T := TX1) (N := 12) (ref := RX1) F in_X1_payFor_X1 hH 0 rfl rfl 0 (by decide) (by decide +kernel) (fun _ h9 => h9) (v := .int (f 0)) rfl dX1_payFor_36 ?_
  refine lv_iload_n hx hb dX1_payFor_39 rfl (lv_at hl 4 rfl) ?_
  refine lv_imul hx hb dX1_payFor_40 ?_
  refine lv_bipush (v := 100) hx hb dX1_payFor_41 (by decide) ?_
  refine lv_idiv hx hb dX1_payFor_43 (by decide) ?_
  refine lv_istore (lv' := [(5, .int (((f 0) * fl) / 100)), (4, .int ((((f 0) - (((f 0) * (40 - (a 2 j))) / 40)) * (pctS (f 1) (f 9) (fillB (a 3 j) (a 2 j)))) / 100)), (3, .int (((f 0) * (40 - (a 2 j))) / 40)), (0, .ref (d 0)), (1, .int (nI j)), (2, .int fl)]) hx hb dX1_payFor_44 hl (by decide) rfl (fun ls hl => ?_)
  refine lv_iload hx hb dX1_payFor_46 (lv_at hl 1 rfl) ?_
  refine lv_iload hx hb dX1_payFor_48 (lv_at hl 0 rfl) ?_
  refine lv_iload_n hx hb dX1_payFor_50 rfl (lv_at hl 2 rfl) ?_
  refine lv_isub hx hb dX1_payFor_51 ?_
  refine va_mmax hx hb (by rw [F.1.2.2.1]; exact hl.1.symm) F.1.2.2.2.1 (F.1.2.2.2.2 (.methodLink RX1 57 Lib.Math.max.name) (by decide +kernel)) (F.1.2.2.2.2 (.static Lib.Math.max.name) (by decide +kernel)) (F.1.2.2.2.2 (.initialized "java/lang/Math") (by decide +kernel)) (F.1.2.2.2.2 (.code Lib.Math.max.name Lib.Math.max.code 2 (some .int)) (by decide +kernel)) (Nat.le_of_ble_eq_true rfl) (Nat.le_of_ble_eq_true rfl) (Nat.le_of_ble_eq_true rfl) (Nat.le_of_ble_eq_true rfl) dX1_payFor_52 ?_
  refine lv_istore (lv' := [(4, .int (if ((((f 0) - (((f 0) * (40 - (a 2 j))) / 40)) * (pctS (f 1) (f 9) (fillB (a 3 j) (a 2 j)))) / 100) < ((((f 0) * fl) / 100) - (((f 0) * (40 - (a 2 j))) / 40)) then ((((f 0) * fl) / 100) - (((f 0) * (40 - (a 2 j))) / 40)) else ((((f 0) - (((f 0) * (40 - (a 2 j))) / 40)) * (pctS (f 1) (f 9) (fillB (a 3 j) (a 2 j)))) / 100))), (5, .int (((f 0) * fl) / 100)), (3, .int (((f 0) * (40 - (a 2 j))) / 40)), (0, .ref (d 0)), (1, .int (nI j)), (2, .int fl)]) hx hb dX1_payFor_55 hl (by decide) rfl (fun ls hl => ?_)
  refine lv_aload_n hx hb dX1_payFor_57 rfl (lv_at hl 3 rfl) ?_
  refine rget (C := RX1) (T := TX1) (N := 12) (ref := RX1) F in_X1_payFor_X1 hH 0 rfl rfl 4 (by decide) (by decide +kernel) (fun _ h9 => h9) (v := .ref (d 4)) rfl dX1_payFor_58 ?_
  refine lv_iload_n hx hb dX1_payFor_61 rfl (lv_at hl 4 rfl) ?_
  refine lv_iload_n hx hb dX1_payFor_62 rfl (lv_at hl 2 rfl) ?_
  refine riast F hH 3 (n := 201) (f := a 4) rfl j rfl hj (by decide) dX1_payFor_63 (fun H locs hH => ?_)
  have hH : HH G A s (wW G d f (va_up a 4 (upd (a 4) j (((f 0) * (40 - (a 2 j))) / 40)))) H locs := hH
  refine lv_aload_n hx hb dX1_payFor_64 rfl (lv_at hl 3 rfl) ?_
  refine rget (C := RX1) (T := TX1) (N := 12) (ref := RX1) F in_X1_payFor_X1 hH 0 rfl rfl 5 (by decide) (by decide +kernel) (fun _ h9 => h9) (v := .ref (d 5)) rfl dX1_payFor_65 ?_
  refine lv_iload_n hx hb dX1_payFor_68 rfl (lv_at hl 4 rfl) ?_
  refine lv_iload hx hb dX1_payFor_69 (lv_at hl 0 rfl) ?_
  refine riast F hH 4 (n := 201) (f := a 5) rfl j rfl hj (by decide) dX1_payFor_71 (fun H locs hH => ?_)
  have hH : HH G A s (wW G d f (va_up (va_up a 4 (upd (a 4) j (((f 0) * (40 - (a 2 j))) / 40))) 5 (upd (a 5) j (if ((((f 0) - (((f 0) * (40 - (a 2 j))) / 40)) * (pctS (f 1) (f 9) (fillB (a 3 j) (a 2 j)))) / 100) < ((((f 0) * fl) / 100) - (((f 0) * (40 - (a 2 j))) / 40)) then ((((f 0) * fl) / 100) - (((f 0) * (40 - (a 2 j))) / 40)) else ((((f 0) - (((f 0) * (40 - (a 2 j))) / 40)) * (pctS (f 1) (f 9) (fillB (a 3 j) (a 2 j)))) / 100))))) H locs := hH
  refine lv_aload_n hx hb dX1_payFor_72 rfl (lv_at hl 3 rfl) ?_
  refine lv_dup hx hb dX1_payFor_73 rfl ?_
  refine rget (C := RX1) (T := TX1) (N := 12) (ref := RX1) F in_X1_payFor_X1 hH 0 rfl rfl 10 (by decide) (by decide +kernel) (fun _ h9 => h9) (v := .int (f 10)) rfl dX1_payFor_74 ?_
  refine lv_iload_n hx hb dX1_payFor_77 rfl (lv_at hl 2 rfl) ?_
  refine lv_iload hx hb dX1_payFor_78 (lv_at hl 0 rfl) ?_
  refine lv_iadd hx hb dX1_payFor_80 ?_
  refine lv_iadd hx hb dX1_payFor_81 ?_
  refine rput (C := RX1) (T := TX1) (N := 12) (ref := RX1) F in_X1_payFor_X1 tyX1 tyX1_ok nmX1 hH 0 rfl rfl 10 (by decide) (by decide +kernel) (fun _ h9 => h9) rfl (v := .int ((f 10) + ((((f 0) * (40 - (a 2 j))) / 40) + (if ((((f 0) - (((f 0) * (40 - (a 2 j))) / 40)) * (pctS (f 1) (f 9) (fillB (a 3 j) (a 2 j)))) / 100) < ((((f 0) * fl) / 100) - (((f 0) * (40 - (a 2 j))) / 40)) then ((((f 0) * fl) / 100) - (((f 0) * (40 - (a 2 j))) / 40)) else ((((f 0) - (((f 0) * (40 - (a 2 j))) / 40)) * (pctS (f 1) (f 9) (fillB (a 3 j) (a 2 j)))) / 100))))) rfl rfl (Nat.le_of_ble_eq_true rfl) dX1_payFor_82 (fun H locs hH => ?_)
  have hH : HH G A s (wW G d (va_up f 10 ((f 10) + ((((f 0) * (40 - (a 2 j))) / 40) + (if ((((f 0) - (((f 0) * (40 - (a 2 j))) / 40)) * (pctS (f 1) (f 9) (fillB (a 3 j) (a 2 j)))) / 100) < ((((f 0) * fl) / 100) - (((f 0) * (40 - (a 2 j))) / 40)) then ((((f 0) * fl) / 100) - (((f 0) * (40 - (a 2 j))) / 40)) else ((((f 0) - (((f 0) * (40 - (a 2 j))) / 40)) * (pctS (f 1) (f 9) (fillB (a 3 j) (a 2 j)))) / 100))))) (va_up (va_up a 4 (upd (a 4) j (((f 0) * (40 - (a 2 j))) / 40))) 5 (upd (a 5) j (if ((((f 0) - (((f 0) * (40 - (a 2 j))) / 40)) * (pctS (f 1) (f 9) (fillB (a 3 j) (a 2 j)))) / 100) < ((((f 0) * fl) / 100) - (((f 0) * (40 - (a 2 j))) / 40)) then ((((f 0) * fl) / 100) - (((f 0) * (40 - (a 2 j))) / 40)) else ((((f 0) - (((f 0) * (40 - (a 2 j))) / 40)) * (pctS (f 1) (f 9) (fillB (a 3 j) (a 2 j)))) / 100))))) H locs := hH
  refine lv_aload_n hx hb dX1_payFor_85 rfl (lv_at hl 3 rfl) ?_
  refine rget (C := RX1) (T := TX1) (N := 12) (ref := RX1) F in_X1_payFor_X1 hH 0 rfl rfl 2 (by decide) (by decide +kernel) (fun _ h9 => h9) (v := .ref (d 2)) rfl dX1_payFor_86 ?_
  refine lv_iload_n hx hb dX1_payFor_89 rfl (lv_at hl 4 rfl) ?_
  refine riald F hH 1 (n := 201) (f := a 2) rfl j rfl hj (by decide) dX1_payFor_90 ?_
  refine lv_if_le (tgt := 104) hx hb dX1_payFor_91 (by decide) (fun c_91 => ?_) (fun c_91 => ?_)
  · refine lv_iload hx hb dX1_payFor_104 (lv_at hl 0 rfl) ?_
    exact retI F hr rfl (fun _ => 0) (by rw [if_pos c_91]; exact hH) rfl (Nat.le_of_ble_eq_true rfl) (Nat.le_of_ble_eq_true rfl) dX1_payFor_106
  · refine lv_aload_n hx hb dX1_payFor_94 rfl (lv_at hl 3 rfl) ?_
    refine lv_dup hx hb dX1_payFor_95 rfl ?_
    refine rget (C := RX1) (T := TX1) (N := 12) (ref := RX1) F in_X1_payFor_X1 hH 0 rfl rfl 9 (by decide) (by decide +kernel) (fun _ h9 => h9) (v := .int (f 9)) rfl dX1_payFor_96 ?_
    refine lv_iconst (v := 1) hx hb dX1_payFor_99 (by decide) ?_
    refine lv_iadd hx hb dX1_payFor_100 ?_
    refine rput (C := RX1) (T := TX1) (N := 12) (ref := RX1) F in_X1_payFor_X1 tyX1 tyX1_ok nmX1 hH 0 rfl rfl 9 (by decide) (by decide +kernel) (fun _ h9 => h9) rfl (v := .int ((f 9) + 1)) rfl rfl (Nat.le_of_ble_eq_true rfl) dX1_payFor_101 (fun H locs hH => ?_)
    have hH : HH G A s (wW G d (va_up (va_up f 10 ((f 10) + ((((f 0) * (40 - (a 2 j))) / 40) + (if ((((f 0) - (((f 0) * (40 - (a 2 j))) / 40)) * (pctS (f 1) (f 9) (fillB (a 3 j) (a 2 j)))) / 100) < ((((f 0) * fl) / 100) - (((f 0) * (40 - (a 2 j))) / 40)) then ((((f 0) * fl) / 100) - (((f 0) * (40 - (a 2 j))) / 40)) else ((((f 0) - (((f 0) * (40 - (a 2 j))) / 40)) * (pctS (f 1) (f 9) (fillB (a 3 j) (a 2 j)))) / 100))))) 9 ((f 9) + 1)) (va_up (va_up a 4 (upd (a 4) j (((f 0) * (40 - (a 2 j))) / 40))) 5 (upd (a 5) j (if ((((f 0) - (((f 0) * (40 - (a 2 j))) / 40)) * (pctS (f 1) (f 9) (fillB (a 3 j) (a 2 j)))) / 100) < ((((f 0) * fl) / 100) - (((f 0) * (40 - (a 2 j))) / 40)) then ((((f 0) * fl) / 100) - (((f 0) * (40 - (a 2 j))) / 40)) else ((((f 0) - (((f 0) * (40 - (a 2 j))) / 40)) * (pctS (f 1) (f 9) (fillB (a 3 j) (a 2 j)))) / 100))))) H locs := hH
    refine lv_iload hx hb dX1_payFor_104 (lv_at hl 0 rfl) ?_
    exact retI F hr rfl (fun _ => 0) (by rw [if_neg c_91]; exact hH) rfl (Nat.le_of_ble_eq_true rfl) (Nat.le_of_ble_eq_true rfl) dX1_payFor_106

