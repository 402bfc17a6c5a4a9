set_option maxHeartbeats 4000000 in
set_option maxRecDepth 100000 in
theorem c_X3_thrown (l : Launch) (G : Gx) (q : Nat → Nat) (f : Nat → Int32) (a : Nat → Nat → Int32) : MI l yX3_thrown wsX3_thrown ({ frames := 0, cells := 0, slots := 0, locals := 0 } : Room) [.ref (q 0)] G (mW G q f a) (fun u => mW G q f a) (f 24) := by
  refine ofMI (cc := cX3_thrown) (maxL := 1) (ret := (some .int)) (by decide) rfl (Nat.le_of_ble_eq_true rfl) (fun p e s m below meth c A ls F hr hnm hH hl => ?_)
  have F : Fx G p s m _ meth c cX3_thrown 1 wsX3_thrown RX3 A := F
  have hx := F.1.1
  have hb := F.1.2.1
  have hl : lv_has ls 1 [(0, .ref (q 0))] := hl
  refine lv_aload_n hx hb dX3_thrown_0 rfl (lv_at hl 0 rfl) ?_
  refine rget (C := RX3) (T := TX3) (N := 25) (ref := RX3) F in_X3_thrown_X3 hH 0 rfl rfl 24 (by decide) (by decide +kernel) (fun _ h9 => h9) (v := .int (f 24)) rfl dX3_thrown_1 ?_
  exact retI F hr rfl (fun _ => 0) hH rfl (Nat.le_of_ble_eq_true rfl) (Nat.le_of_ble_eq_true rfl) dX3_thrown_4

set_option maxHeartbeats 4000000 in
set_option maxRecDepth 100000 in
theorem c_X3_fails (l : Launch) (G : Gx) (q : Nat → Nat) (f : Nat → Int32) (a : Nat → Nat → Int32) (v : Int32) : MI l yX3_fails wsX3_fails ({ frames := 0, cells := 0, slots := 0, locals := 0 } : Room) [.ref (q 0), .int v] G (mW G q f a) (fun u => mW G q (va_up f 24 v) a) 0 := by
  refine ofMI (cc := cX3_fails) (maxL := 2) (ret := (some .int)) (by decide) rfl (Nat.le_of_ble_eq_true rfl) (fun p e s m below meth c A ls F hr hnm hH hl => ?_)
  have F : Fx G p s m _ meth c cX3_fails 2 wsX3_fails RX3 A := F
  have hx := F.1.1
  have hb := F.1.2.1
  have hl : lv_has ls 2 [(0, .ref (q 0)), (1, .int v)] := hl
  refine lv_aload_n hx hb dX3_fails_0 rfl (lv_at hl 0 rfl) ?_
  refine lv_iload_n hx hb dX3_fails_1 rfl (lv_at hl 1 rfl) ?_
  refine rput (C := RX3) (T := TX3) (N := 25) (ref := RX3) F in_X3_fails_X3 tyX3 tyX3_ok nmX3 hH 0 rfl rfl 24 (by decide) (by decide +kernel) (fun _ h9 => h9) rfl (v := .int v) rfl rfl (Nat.le_of_ble_eq_true rfl) dX3_fails_2 (fun H locs hH => ?_)
  have hH : HH G A s (mW G q (va_up f 24 v) a) H locs := hH
  refine lv_iconst (v := 0) hx hb dX3_fails_5 (by decide) ?_
  exact retI F hr rfl (fun _ => 0) hH rfl (Nat.le_of_ble_eq_true rfl) (Nat.le_of_ble_eq_true rfl) dX3_fails_6

set_option maxHeartbeats 4000000 in
set_option maxRecDepth 100000 in
theorem c_X3_asks_1 (l : Launch) (G : Gx) (q : Nat → Nat) (f : Nat → Int32) (a : Nat → Nat → Int32) : MI l yX3_asks wsX3_asks ({ frames := 0, cells := 0, slots := 0, locals := 0 } : Room) [.ref (q 0), .int 1] G (mW G q f a) (fun u => mW G q (va_up f 24 0) a) 1 := by
  refine ofMI (cc := cX3_asks) (maxL := 2) (ret := (some .boolean)) (by decide) rfl (Nat.le_of_ble_eq_true rfl) (fun p e s m below meth c A ls F hr hnm hH hl => ?_)
  have F : Fx G p s m _ meth c cX3_asks 2 wsX3_asks RX3 A := F
  have hx := F.1.1
  have hb := F.1.2.1
  have hl : lv_has ls 2 [(0, .ref (q 0)), (1, .int 1)] := hl
  refine lv_aload_n hx hb dX3_asks_0 rfl (lv_at hl 0 rfl) ?_
  refine lv_iload_n hx hb dX3_asks_1 rfl (lv_at hl 1 rfl) ?_
  refine lv_if_eq (tgt := 9) hx hb dX3_asks_2 (by decide) (fun c_2 => absurd c_2 (by decide)) (fun c_2 => ?_)
  refine lv_iconst (v := 0) hx hb dX3_asks_5 (by decide) ?_
  refine lv_goto (tgt := 10) hx hb dX3_asks_6 (by decide) ?_
  refine rput (C := RX3) (T := TX3) (N := 25) (ref := RX3) F in_X3_asks_X3 tyX3 tyX3_ok nmX3 hH 0 rfl rfl 24 (by decide) (by decide +kernel) (fun _ h9 => h9) rfl (v := .int 0) rfl rfl (Nat.le_of_ble_eq_true rfl) dX3_asks_10 (fun H locs hH => ?_)
  have hH : HH G A s (mW G q (va_up f 24 0) a) H locs := hH
  refine lv_iload_n hx hb dX3_asks_13 rfl (lv_at hl 1 rfl) ?_
  exact retI F hr rfl (fun _ => 0) hH rfl (Nat.le_of_ble_eq_true rfl) (Nat.le_of_ble_eq_true rfl) dX3_asks_14

set_option maxHeartbeats 4000000 in
set_option maxRecDepth 100000 in
theorem c_X3_asks_0 (l : Launch) (G : Gx) (q : Nat → Nat) (f : Nat → Int32) (a : Nat → Nat → Int32) : MI l yX3_asks wsX3_asks ({ frames := 0, cells := 0, slots := 0, locals := 0 } : Room) [.ref (q 0), .int 0] G (mW G q f a) (fun u => mW G q (va_up f 24 1) a) 0 := by
  refine ofMI (cc := cX3_asks) (maxL := 2) (ret := (some .boolean)) (by decide) rfl (Nat.le_of_ble_eq_true rfl) (fun p e s m below meth c A ls F hr hnm hH hl => ?_)
  have F : Fx G p s m _ meth c cX3_asks 2 wsX3_asks RX3 A := F
  have hx := F.1.1
  have hb := F.1.2.1
  have hl : lv_has ls 2 [(0, .ref (q 0)), (1, .int 0)] := hl
  refine lv_aload_n hx hb dX3_asks_0 rfl (lv_at hl 0 rfl) ?_
  refine lv_iload_n hx hb dX3_asks_1 rfl (lv_at hl 1 rfl) ?_
  refine lv_if_eq (tgt := 9) hx hb dX3_asks_2 (by decide) (fun c_2 => ?_) (fun c_2 => absurd rfl c_2)
  refine lv_iconst (v := 1) hx hb dX3_asks_9 (by decide) ?_
  refine rput (C := RX3) (T := TX3) (N := 25) (ref := RX3) F in_X3_asks_X3 tyX3 tyX3_ok nmX3 hH 0 rfl rfl 24 (by decide) (by decide +kernel) (fun _ h9 => h9) rfl (v := .int 1) rfl rfl (Nat.le_of_ble_eq_true rfl) dX3_asks_10 (fun H locs hH => ?_)
  have hH : HH G A s (mW G q (va_up f 24 1) a) H locs := hH
  refine lv_iload_n hx hb dX3_asks_13 rfl (lv_at hl 1 rfl) ?_
  exact retI F hr rfl (fun _ => 0) hH rfl (Nat.le_of_ble_eq_true rfl) (Nat.le_of_ble_eq_true rfl) dX3_asks_14

set_option maxHeartbeats 4000000 in
set_option maxRecDepth 100000 in
theorem c_X3_in_1 (l : Launch) (G : Gx) (ws : va_W) (v lo hi : Int32) (h1 : lo ≤ v) (h2 : v ≤ hi) : MI l yX3_in wsX3_in ({ frames := 0, cells := 0, slots := 0, locals := 0 } : Room) [.int v, .int lo, .int hi] G (ws) (fun u => ws) 1 := by
  refine ofMI (cc := cX3_in) (maxL := 3) (ret := (some .boolean)) (by decide) rfl (Nat.le_of_ble_eq_true rfl) (fun p e s m below meth c A ls F hr hnm hH hl => ?_)
  have F : Fx G p s m _ meth c cX3_in 3 wsX3_in RX3 A := F
  have hx := F.1.1
  have hb := F.1.2.1
  have hl : lv_has ls 3 [(0, .int v), (1, .int lo), (2, .int hi)] := hl
  refine lv_iload_n hx hb dX3_in_0 rfl (lv_at hl 0 rfl) ?_
  refine lv_iload_n hx hb dX3_in_1 rfl (lv_at hl 1 rfl) ?_
  refine lv_icmp_lt (tgt := 14) hx hb dX3_in_2 (by decide) (fun c_2 => absurd c_2 (i_nlt h1)) (fun c_2 => ?_)
  refine lv_iload_n hx hb dX3_in_5 rfl (lv_at hl 0 rfl) ?_
  refine lv_iload_n hx hb dX3_in_6 rfl (lv_at hl 2 rfl) ?_
  refine lv_icmp_gt (tgt := 14) hx hb dX3_in_7 (by decide) (fun c_7 => absurd c_7 (i_nlt h2)) (fun c_7 => ?_)
  refine lv_iconst (v := 1) hx hb dX3_in_10 (by decide) ?_
  refine lv_goto (tgt := 15) hx hb dX3_in_11 (by decide) ?_
  exact retI F hr rfl (fun _ => 0) hH rfl (Nat.le_of_ble_eq_true rfl) (Nat.le_of_ble_eq_true rfl) dX3_in_15

set_option maxHeartbeats 4000000 in
set_option maxRecDepth 100000 in
theorem c_X3_in_0 (l : Launch) (G : Gx) (ws : va_W) (v lo hi : Int32) (h : v < lo ∨ hi < v) : MI l yX3_in wsX3_in ({ frames := 0, cells := 0, slots := 0, locals := 0 } : Room) [.int v, .int lo, .int hi] G (ws) (fun u => ws) 0 := by
  refine ofMI (cc := cX3_in) (maxL := 3) (ret := (some .boolean)) (by decide) rfl (Nat.le_of_ble_eq_true rfl) (fun p e s m below meth c A ls F hr hnm hH hl => ?_)
  have F : Fx G p s m _ meth c cX3_in 3 wsX3_in RX3 A := F
  have hx := F.1.1
  have hb := F.1.2.1
  have hl : lv_has ls 3 [(0, .int v), (1, .int lo), (2, .int hi)] := hl
  refine lv_iload_n hx hb dX3_in_0 rfl (lv_at hl 0 rfl) ?_
  refine lv_iload_n hx hb dX3_in_1 rfl (lv_at hl 1 rfl) ?_
  refine lv_icmp_lt (tgt := 14) hx hb dX3_in_2 (by decide) (fun c_2 => ?_) (fun c_2 => ?_)
  · refine lv_iconst (v := 0) hx hb dX3_in_14 (by decide) ?_
    exact retI F hr rfl (fun _ => 0) hH rfl (Nat.le_of_ble_eq_true rfl) (Nat.le_of_ble_eq_true rfl) dX3_in_15
  · refine lv_iload_n hx hb dX3_in_5 rfl (lv_at hl 0 rfl) ?_
    refine lv_iload_n hx hb dX3_in_6 rfl (lv_at hl 2 rfl) ?_
    refine lv_icmp_gt (tgt := 14) hx hb dX3_in_7 (by decide) (fun c_7 => ?_) (fun c_7 => absurd (h.resolve_left c_2) c_7)
    refine lv_iconst (v := 0) hx hb dX3_in_14 (by decide) ?_
    exact retI F hr rfl (fun _ => 0) hH rfl (Nat.le_of_ble_eq_true rfl) (Nat.le_of_ble_eq_true rfl) dX3_in_15

set_option maxHeartbeats 4000000 in
set_option maxRecDepth 100000 in
theorem c_X3_isWorker_1 (l : Launch) (G : Gx) (q : Nat → Nat) (f : Nat → Int32) (a : Nat → Nat → Int32) (n : Nat) (e0 : f 0 = nI n) (hn : n ≤ 8) (i : Nat) (hi : i < n) : MI l yX3_isWorker wsX3_isWorker ({ frames := 0, cells := 0, slots := 0, locals := 0 } : Room) [.ref (q 0), .int (nI i)] G (mW G q f a) (fun u => mW G q f a) 1 := by
  refine ofMI (cc := cX3_isWorker) (maxL := 2) (ret := (some .boolean)) (by decide) rfl (Nat.le_of_ble_eq_true rfl) (fun p e s m below meth c A ls F hr hnm hH hl => ?_)
  have F : Fx G p s m _ meth c cX3_isWorker 2 wsX3_isWorker RX3 A := F
  have hx := F.1.1
  have hb := F.1.2.1
  have hl : lv_has ls 2 [(0, .ref (q 0)), (1, .int (nI i))] := hl
  refine lv_iload_n hx hb dX3_isWorker_0 rfl (lv_at hl 1 rfl) ?_
  refine lv_if_lt (tgt := 16) hx hb dX3_isWorker_1 (by decide) (fun c_1 => absurd c_1 (nI_pos (by omega))) (fun c_1 => ?_)
  refine lv_iload_n hx hb dX3_isWorker_4 rfl (lv_at hl 1 rfl) ?_
  refine lv_aload_n hx hb dX3_isWorker_5 rfl (lv_at hl 0 rfl) ?_
  refine rget (C := RX3) (T := TX3) (N := 25) (ref := RX3) F in_X3_isWorker_X3 hH 0 rfl rfl 0 (by decide) (by decide +kernel) (fun _ h9 => h9) (v := .int (f 0)) rfl dX3_isWorker_6 ?_
  refine lv_icmp_ge (tgt := 16) hx hb dX3_isWorker_9 (by decide) (fun c_9 => absurd c_9 (by rw [e0]; exact nI_ge hi (by omega))) (fun c_9 => ?_)
  refine lv_iconst (v := 1) hx hb dX3_isWorker_12 (by decide) ?_
  refine lv_goto (tgt := 17) hx hb dX3_isWorker_13 (by decide) ?_
  exact retI F hr rfl (fun _ => 0) hH rfl (Nat.le_of_ble_eq_true rfl) (Nat.le_of_ble_eq_true rfl) dX3_isWorker_17

set_option maxHeartbeats 4000000 in
set_option maxRecDepth 100000 in
theorem c_X3_isWorker_0 (l : Launch) (G : Gx) (q : Nat → Nat) (f : Nat → Int32) (a : Nat → Nat → Int32) (n : Nat) (e0 : f 0 = nI n) (hn : n ≤ 8) (v : Int32) (h : v < 0 ∨ nI n ≤ v) : MI l yX3_isWorker wsX3_isWorker ({ frames := 0, cells := 0, slots := 0, locals := 0 } : Room) [.ref (q 0), .int v] G (mW G q f a) (fun u => mW G q f a) 0 := by
  refine ofMI (cc := cX3_isWorker) (maxL := 2) (ret := (some .boolean)) (by decide) rfl (Nat.le_of_ble_eq_true rfl) (fun p e s m below meth c A ls F hr hnm hH hl => ?_)
  have F : Fx G p s m _ meth c cX3_isWorker 2 wsX3_isWorker RX3 A := F
  have hx := F.1.1
  have hb := F.1.2.1
  have hl : lv_has ls 2 [(0, .ref (q 0)), (1, .int v)] := hl
  refine lv_iload_n hx hb dX3_isWorker_0 rfl (lv_at hl 1 rfl) ?_
  refine lv_if_lt (tgt := 16) hx hb dX3_isWorker_1 (by decide) (fun c_1 => ?_) (fun c_1 => ?_)
  · refine lv_iconst (v := 0) hx hb dX3_isWorker_16 (by decide) ?_
    exact retI F hr rfl (fun _ => 0) hH rfl (Nat.le_of_ble_eq_true rfl) (Nat.le_of_ble_eq_true rfl) dX3_isWorker_17
  · refine lv_iload_n hx hb dX3_isWorker_4 rfl (lv_at hl 1 rfl) ?_
    refine lv_aload_n hx hb dX3_isWorker_5 rfl (lv_at hl 0 rfl) ?_
    refine rget (C := RX3) (T := TX3) (N := 25) (ref := RX3) F in_X3_isWorker_X3 hH 0 rfl rfl 0 (by decide) (by decide +kernel) (fun _ h9 => h9) (v := .int (f 0)) rfl dX3_isWorker_6 ?_
    refine lv_icmp_ge (tgt := 16) hx hb dX3_isWorker_9 (by decide) (fun c_9 => ?_) (fun c_9 => absurd (by rw [e0]; exact h.resolve_left c_1) c_9)
    refine lv_iconst (v := 0) hx hb dX3_isWorker_16 (by decide) ?_
    exact retI F hr rfl (fun _ => 0) hH rfl (Nat.le_of_ble_eq_true rfl) (Nat.le_of_ble_eq_true rfl) dX3_isWorker_17

set_option maxHeartbeats 4000000 in
set_option maxRecDepth 100000 in
theorem c_X3_isCourse_1 (l : Launch) (G : Gx) (q : Nat → Nat) (f : Nat → Int32) (a : Nat → Nat → Int32) (n : Nat) (e0 : f 10 = nI n) (hn : n ≤ 10) (i : Nat) (hi : i < n) : MI l yX3_isCourse wsX3_isCourse ({ frames := 0, cells := 0, slots := 0, locals := 0 } : Room) [.ref (q 0), .int (nI i)] G (mW G q f a) (fun u => mW G q f a) 1 := by
  refine ofMI (cc := cX3_isCourse) (maxL := 2) (ret := (some .boolean)) (by decide) rfl (Nat.le_of_ble_eq_true rfl) (fun p e s m below meth c A ls F hr hnm hH hl => ?_)
  have F : Fx G p s m _ meth c cX3_isCourse 2 wsX3_isCourse RX3 A := F
  have hx := F.1.1
  have hb := F.1.2.1
  have hl : lv_has ls 2 [(0, .ref (q 0)), (1, .int (nI i))] := hl
  refine lv_iload_n hx hb dX3_isCourse_0 rfl (lv_at hl 1 rfl) ?_
  refine lv_if_lt (tgt := 16) hx hb dX3_isCourse_1 (by decide) (fun c_1 => absurd c_1 (nI_pos (by omega))) (fun c_1 => ?_)
  refine lv_iload_n hx hb dX3_isCourse_4 rfl (lv_at hl 1 rfl) ?_
  refine lv_aload_n hx hb dX3_isCourse_5 rfl (lv_at hl 0 rfl) ?_
  refine rget (C := RX3) (T := TX3) (N := 25) (ref := RX3) F in_X3_isCourse_X3 hH 0 rfl rfl 10 (by decide) (by decide +kernel) (fun _ h9 => h9) (v := .int (f 10)) rfl dX3_isCourse_6 ?_
  refine lv_icmp_ge (tgt := 16) hx hb dX3_isCourse_9 (by decide) (fun c_9 => absurd c_9 (by rw [e0]; exact nI_ge hi (by omega))) (fun c_9 => ?_)
  refine lv_iconst (v := 1) hx hb dX3_isCourse_12 (by decide) ?_
  refine lv_goto (tgt := 17) hx hb dX3_isCourse_13 (by decide) ?_
  exact retI F hr rfl (fun _ => 0) hH rfl (Nat.le_of_ble_eq_true rfl) (Nat.le_of_ble_eq_true rfl) dX3_isCourse_17

set_option maxHeartbeats 4000000 in
set_option maxRecDepth 100000 in
theorem c_X3_isCourse_0 (l : Launch) (G : Gx) (q : Nat → Nat) (f : Nat → Int32) (a : Nat → Nat → Int32) (n : Nat) (e0 : f 10 = nI n) (hn : n ≤ 10) (v : Int32) (h : v < 0 ∨ nI n ≤ v) : MI l yX3_isCourse wsX3_isCourse ({ frames := 0, cells := 0, slots := 0, locals := 0 } : Room) [.ref (q 0), .int v] G (mW G q f a) (fun u => mW G q f a) 0 := by
  refine ofMI (cc := cX3_isCourse) (maxL := 2) (ret := (some .boolean)) (by decide) rfl (Nat.le_of_ble_eq_true rfl) (fun p e s m below meth c A ls F hr hnm hH hl => ?_)
  have F : Fx G p s m _ meth c cX3_isCourse 2 wsX3_isCourse RX3 A := F
  have hx := F.1.1
  have hb := F.1.2.1
  have hl : lv_has ls 2 [(0, .ref (q 0)), (1, .int v)] := hl
  refine lv_iload_n hx hb dX3_isCourse_0 rfl (lv_at hl 1 rfl) ?_
  refine lv_if_lt (tgt := 16) hx hb dX3_isCourse_1 (by decide) (fun c_1 => ?_) (fun c_1 => ?_)
  · refine lv_iconst (v := 0) hx hb dX3_isCourse_16 (by decide) ?_
    exact retI F hr rfl (fun _ => 0) hH rfl (Nat.le_of_ble_eq_true rfl) (Nat.le_of_ble_eq_true rfl) dX3_isCourse_17
  · refine lv_iload_n hx hb dX3_isCourse_4 rfl (lv_at hl 1 rfl) ?_
    refine lv_aload_n hx hb dX3_isCourse_5 rfl (lv_at hl 0 rfl) ?_
    refine rget (C := RX3) (T := TX3) (N := 25) (ref := RX3) F in_X3_isCourse_X3 hH 0 rfl rfl 10 (by decide) (by decide +kernel) (fun _ h9 => h9) (v := .int (f 10)) rfl dX3_isCourse_6 ?_
    refine lv_icmp_ge (tgt := 16) hx hb dX3_isCourse_9 (by decide) (fun c_9 => ?_) (fun c_9 => absurd (by rw [e0]; exact h.resolve_left c_1) c_9)
    refine lv_iconst (v := 0) hx hb dX3_isCourse_16 (by decide) ?_
    exact retI F hr rfl (fun _ => 0) hH rfl (Nat.le_of_ble_eq_true rfl) (Nat.le_of_ble_eq_true rfl) dX3_isCourse_17

set_option maxHeartbeats 4000000 in
set_option maxRecDepth 100000 in
theorem c_X3_isPast_1 (l : Launch) (G : Gx) (q : Nat → Nat) (f : Nat → Int32) (a : Nat → Nat → Int32) (n : Nat) (e0 : f 16 = nI n) (hn : n ≤ 201) (i : Nat) (hi : i < n) : MI l yX3_isPast wsX3_isPast ({ frames := 0, cells := 0, slots := 0, locals := 0 } : Room) [.ref (q 0), .int (nI i)] G (mW G q f a) (fun u => mW G q f a) 1 := by
  refine ofMI (cc := cX3_isPast) (maxL := 2) (ret := (some .boolean)) (by decide) rfl (Nat.le_of_ble_eq_true rfl) (fun p e s m below meth c A ls F hr hnm hH hl => ?_)
  have F : Fx G p s m _ meth c cX3_isPast 2 wsX3_isPast RX3 A := F
  have hx := F.1.1
  have hb := F.1.2.1
  have hl : lv_has ls 2 [(0, .ref (q 0)), (1, .int (nI i))] := hl
  refine lv_iload_n hx hb dX3_isPast_0 rfl (lv_at hl 1 rfl) ?_
  refine lv_if_lt (tgt := 16) hx hb dX3_isPast_1 (by decide) (fun c_1 => absurd c_1 (nI_pos (by omega))) (fun c_1 => ?_)
  refine lv_iload_n hx hb dX3_isPast_4 rfl (lv_at hl 1 rfl) ?_
  refine lv_aload_n hx hb dX3_isPast_5 rfl (lv_at hl 0 rfl) ?_
  refine rget (C := RX3) (T := TX3) (N := 25) (ref := RX3) F in_X3_isPast_X3 hH 0 rfl rfl 16 (by decide) (by decide +kernel) (fun _ h9 => h9) (v := .int (f 16)) rfl dX3_isPast_6 ?_
  refine lv_icmp_ge (tgt := 16) hx hb dX3_isPast_9 (by decide) (fun c_9 => absurd c_9 (by rw [e0]; exact nI_ge hi (by omega))) (fun c_9 => ?_)
  refine lv_iconst (v := 1) hx hb dX3_isPast_12 (by decide) ?_
  refine lv_goto (tgt := 17) hx hb dX3_isPast_13 (by decide) ?_
  exact retI F hr rfl (fun _ => 0) hH rfl (Nat.le_of_ble_eq_true rfl) (Nat.le_of_ble_eq_true rfl) dX3_isPast_17

set_option maxHeartbeats 4000000 in
set_option maxRecDepth 100000 in
theorem c_X3_isPast_0 (l : Launch) (G : Gx) (q : Nat → Nat) (f : Nat → Int32) (a : Nat → Nat → Int32) (n : Nat) (e0 : f 16 = nI n) (hn : n ≤ 201) (v : Int32) (h : v < 0 ∨ nI n ≤ v) : MI l yX3_isPast wsX3_isPast ({ frames := 0, cells := 0, slots := 0, locals := 0 } : Room) [.ref (q 0), .int v] G (mW G q f a) (fun u => mW G q f a) 0 := by
  refine ofMI (cc := cX3_isPast) (maxL := 2) (ret := (some .boolean)) (by decide) rfl (Nat.le_of_ble_eq_true rfl) (fun p e s m below meth c A ls F hr hnm hH hl => ?_)
  have F : Fx G p s m _ meth c cX3_isPast 2 wsX3_isPast RX3 A := F
  have hx := F.1.1
  have hb := F.1.2.1
  have hl : lv_has ls 2 [(0, .ref (q 0)), (1, .int v)] := hl
  refine lv_iload_n hx hb dX3_isPast_0 rfl (lv_at hl 1 rfl) ?_
  refine lv_if_lt (tgt := 16) hx hb dX3_isPast_1 (by decide) (fun c_1 => ?_) (fun c_1 => ?_)
  · refine lv_iconst (v := 0) hx hb dX3_isPast_16 (by decide) ?_
    exact retI F hr rfl (fun _ => 0) hH rfl (Nat.le_of_ble_eq_true rfl) (Nat.le_of_ble_eq_true rfl) dX3_isPast_17
  · refine lv_iload_n hx hb dX3_isPast_4 rfl (lv_at hl 1 rfl) ?_
    refine lv_aload_n hx hb dX3_isPast_5 rfl (lv_at hl 0 rfl) ?_
    refine rget (C := RX3) (T := TX3) (N := 25) (ref := RX3) F in_X3_isPast_X3 hH 0 rfl rfl 16 (by decide) (by decide +kernel) (fun _ h9 => h9) (v := .int (f 16)) rfl dX3_isPast_6 ?_
    refine lv_icmp_ge (tgt := 16) hx hb dX3_isPast_9 (by decide) (fun c_9 => ?_) (fun c_9 => absurd (by rw [e0]; exact h.resolve_left c_1) c_9)
    refine lv_iconst (v := 0) hx hb dX3_isPast_16 (by decide) ?_
    exact retI F hr rfl (fun _ => 0) hH rfl (Nat.le_of_ble_eq_true rfl) (Nat.le_of_ble_eq_true rfl) dX3_isPast_17

set_option maxHeartbeats 4000000 in
set_option maxRecDepth 100000 in
theorem c_X3_workers (l : Launch) (G : Gx) (q : Nat → Nat) (f : Nat → Int32) (a : Nat → Nat → Int32) : MI l yX3_workers wsX3_workers ({ frames := 0, cells := 0, slots := 0, locals := 0 } : Room) [.ref (q 0)] G (mW G q f a) (fun u => mW G q (va_up f 24 0) a) (f 0) := by
  refine ofMI (cc := cX3_workers) (maxL := 1) (ret := (some .int)) (by decide) rfl (Nat.le_of_ble_eq_true rfl) (fun p e s m below meth c A ls F hr hnm hH hl => ?_)
  have F : Fx G p s m _ meth c cX3_workers 1 wsX3_workers RX3 A := F
  have hx := F.1.1
  have hb := F.1.2.1
  have hl : lv_has ls 1 [(0, .ref (q 0))] := hl
  refine lv_aload_n hx hb dX3_workers_0 rfl (lv_at hl 0 rfl) ?_
  refine lv_iconst (v := 0) hx hb dX3_workers_1 (by decide) ?_
  refine rput (C := RX3) (T := TX3) (N := 25) (ref := RX3) F in_X3_workers_X3 tyX3 tyX3_ok nmX3 hH 0 rfl rfl 24 (by decide) (by decide +kernel) (fun _ h9 => h9) rfl (v := .int 0) rfl rfl (Nat.le_of_ble_eq_true rfl) dX3_workers_2 (fun H locs hH => ?_)
  have hH : HH G A s (mW G q (va_up f 24 0) a) H locs := hH
  refine lv_aload_n hx hb dX3_workers_5 rfl (lv_at hl 0 rfl) ?_
  refine rget (C := RX3) (T := TX3) (N := 25) (ref := RX3) F in_X3_workers_X3 hH 0 rfl rfl 0 (by decide) (by decide +kernel) (fun _ h9 => h9) (v := .int (f 0)) rfl dX3_workers_6 ?_
  exact retI F hr rfl (fun _ => 0) hH rfl (Nat.le_of_ble_eq_true rfl) (Nat.le_of_ble_eq_true rfl) dX3_workers_9

set_option maxHeartbeats 4000000 in
set_option maxRecDepth 100000 in
theorem c_X3_week (l : Launch) (G : Gx) (q : Nat → Nat) (f : Nat → Int32) (a : Nat → Nat → Int32) : MI l yX3_week wsX3_week ({ frames := 0, cells := 0, slots := 0, locals := 0 } : Room) [.ref (q 0)] G (mW G q f a) (fun u => mW G q (va_up f 24 0) a) (f 16) := by
  refine ofMI (cc := cX3_week) (maxL := 1) (ret := (some .int)) (by decide) rfl (Nat.le_of_ble_eq_true rfl) (fun p e s m below meth c A ls F hr hnm hH hl => ?_)
  have F : Fx G p s m _ meth c cX3_week 1 wsX3_week RX3 A := F
  have hx := F.1.1
  have hb := F.1.2.1
  have hl : lv_has ls 1 [(0, .ref (q 0))] := hl
  refine lv_aload_n hx hb dX3_week_0 rfl (lv_at hl 0 rfl) ?_
  refine lv_iconst (v := 0) hx hb dX3_week_1 (by decide) ?_
  refine rput (C := RX3) (T := TX3) (N := 25) (ref := RX3) F in_X3_week_X3 tyX3 tyX3_ok nmX3 hH 0 rfl rfl 24 (by decide) (by decide +kernel) (fun _ h9 => h9) rfl (v := .int 0) rfl rfl (Nat.le_of_ble_eq_true rfl) dX3_week_2 (fun H locs hH => ?_)
  have hH : HH G A s (mW G q (va_up f 24 0) a) H locs := hH
  refine lv_aload_n hx hb dX3_week_5 rfl (lv_at hl 0 rfl) ?_
  refine rget (C := RX3) (T := TX3) (N := 25) (ref := RX3) F in_X3_week_X3 hH 0 rfl rfl 16 (by decide) (by decide +kernel) (fun _ h9 => h9) (v := .int (f 16)) rfl dX3_week_6 ?_
  exact retI F hr rfl (fun _ => 0) hH rfl (Nat.le_of_ble_eq_true rfl) (Nat.le_of_ble_eq_true rfl) dX3_week_9

set_option maxHeartbeats 4000000 in
set_option maxRecDepth 100000 in
theorem c_X3_firmOwes (l : Launch) (G : Gx) (q : Nat → Nat) (f : Nat → Int32) (a : Nat → Nat → Int32) : MI l yX3_firmOwes wsX3_firmOwes ({ frames := 0, cells := 0, slots := 0, locals := 0 } : Room) [.ref (q 0)] G (mW G q f a) (fun u => mW G q (va_up f 24 0) a) (f 9) := by
  refine ofMI (cc := cX3_firmOwes) (maxL := 1) (ret := (some .int)) (by decide) rfl (Nat.le_of_ble_eq_true rfl) (fun p e s m below meth c A ls F hr hnm hH hl => ?_)
  have F : Fx G p s m _ meth c cX3_firmOwes 1 wsX3_firmOwes RX3 A := F
  have hx := F.1.1
  have hb := F.1.2.1
  have hl : lv_has ls 1 [(0, .ref (q 0))] := hl
  refine lv_aload_n hx hb dX3_firmOwes_0 rfl (lv_at hl 0 rfl) ?_
  refine lv_iconst (v := 0) hx hb dX3_firmOwes_1 (by decide) ?_
  refine rput (C := RX3) (T := TX3) (N := 25) (ref := RX3) F in_X3_firmOwes_X3 tyX3 tyX3_ok nmX3 hH 0 rfl rfl 24 (by decide) (by decide +kernel) (fun _ h9 => h9) rfl (v := .int 0) rfl rfl (Nat.le_of_ble_eq_true rfl) dX3_firmOwes_2 (fun H locs hH => ?_)
  have hH : HH G A s (mW G q (va_up f 24 0) a) H locs := hH
  refine lv_aload_n hx hb dX3_firmOwes_5 rfl (lv_at hl 0 rfl) ?_
  refine rget (C := RX3) (T := TX3) (N := 25) (ref := RX3) F in_X3_firmOwes_X3 hH 0 rfl rfl 9 (by decide) (by decide +kernel) (fun _ h9 => h9) (v := .int (f 9)) rfl dX3_firmOwes_6 ?_
  exact retI F hr rfl (fun _ => 0) hH rfl (Nat.le_of_ble_eq_true rfl) (Nat.le_of_ble_eq_true rfl) dX3_firmOwes_9

set_option maxHeartbeats 4000000 in
set_option maxRecDepth 100000 in
theorem c_X3_setFloor_1 (l : Launch) (G : Gx) (q : Nat → Nat) (f : Nat → Int32) (a : Nat → Nat → Int32) (v : Int32) (h1 : 0 ≤ v) (h2 : v ≤ 100) : MI l yX3_setFloor wsX3_setFloor ({ frames := 1, cells := 0, slots := 0, locals := 22 } : Room) [.ref (q 0), .int v] G (mW G q f a) (fun u => mW G q (va_up (va_up f 24 0) 17 v) a) (f 17) := by
  refine ofMI (cc := cX3_setFloor) (maxL := 3) (ret := (some .int)) (by decide) rfl (Nat.le_of_ble_eq_true rfl) (fun p e s m below meth c A ls F hr hnm hH hl => ?_)
  have F : Fx G p s m _ meth c cX3_setFloor 3 wsX3_setFloor RX3 A := F
  have hx := F.1.1
  have hb := F.1.2.1
  have hl : lv_has ls 3 [(0, .ref (q 0)), (1, .int v)] := hl
  refine lv_aload_n hx hb dX3_setFloor_0 rfl (lv_at hl 0 rfl) ?_
  refine lv_iload_n hx hb dX3_setFloor_1 rfl (lv_at hl 1 rfl) ?_
  refine lv_iconst (v := 0) hx hb dX3_setFloor_2 (by decide) ?_
  refine lv_bipush (v := 100) hx hb dX3_setFloor_3 (by decide) ?_
  refine callSI0 (rest := [.ref (q 0)]) F (c_X3_in_1 l G _ v 0 100 h1 h2) gX3_setFloor_X3_in rfl hdX3_in ⟨Nat.le_of_ble_eq_true rfl, Nat.le_of_ble_eq_true rfl⟩ hH rfl hl.1 (Nat.le_of_ble_eq_true rfl) dX3_setFloor_5 ⟨Nat.le_of_ble_eq_true rfl, Nat.le_of_ble_eq_true rfl⟩ rfl (fun u H locs hH => ?_)
  have hH : HH G A s (mW G q f a) H locs := hH
  refine callVI0 (rest := []) F (c_X3_asks_1 l G q f a) gX3_setFloor_X3_asks rfl hdX3_asks ⟨Nat.le_of_ble_eq_true rfl, Nat.le_of_ble_eq_true rfl⟩ hH ⟨0, 3, _, _, rfl, rfl, rfl⟩ rfl hl.1 (Nat.le_of_ble_eq_true rfl) dX3_setFloor_8 ⟨Nat.le_of_ble_eq_true rfl, Nat.le_of_ble_eq_true rfl⟩ rfl (fun u H locs hH => ?_)
  have hH : HH G A s (mW G q (va_up f 24 0) a) H locs := hH
  refine lv_if_ne (tgt := 16) hx hb dX3_setFloor_11 (by decide) (fun c_11 => ?_) (fun c_11 => absurd c_11 (by decide))
  refine lv_aload_n hx hb dX3_setFloor_16 rfl (lv_at hl 0 rfl) ?_
  refine rget (C := RX3) (T := TX3) (N := 25) (ref := RX3) F in_X3_setFloor_X3 hH 0 rfl rfl 17 (by decide) (by decide +kernel) (fun _ h9 => h9) (v := .int (f 17)) rfl dX3_setFloor_17 ?_
  refine lv_istore_n (lv' := [(2, .int (f 17)), (0, .ref (q 0)), (1, .int v)]) hx hb dX3_setFloor_20 rfl hl (by decide) rfl (fun ls hl => ?_)
  refine lv_aload_n hx hb dX3_setFloor_21 rfl (lv_at hl 1 rfl) ?_
  refine lv_iload_n hx hb dX3_setFloor_22 rfl (lv_at hl 2 rfl) ?_
  refine rput (C := RX3) (T := TX3) (N := 25) (ref := RX3) F in_X3_setFloor_X3 tyX3 tyX3_ok nmX3 hH 0 rfl rfl 17 (by decide) (by decide +kernel) (fun _ h9 => h9) rfl (v := .int v) rfl rfl (Nat.le_of_ble_eq_true rfl) dX3_setFloor_23 (fun H locs hH => ?_)
  have hH : HH G A s (mW G q (va_up (va_up f 24 0) 17 v) a) H locs := hH
  refine lv_iload_n hx hb dX3_setFloor_26 rfl (lv_at hl 0 rfl) ?_
  exact retI F hr rfl (fun _ => 0) hH rfl (Nat.le_of_ble_eq_true rfl) (Nat.le_of_ble_eq_true rfl) dX3_setFloor_27

set_option maxHeartbeats 4000000 in
set_option maxRecDepth 100000 in
theorem c_X3_setFloor_2 (l : Launch) (G : Gx) (q : Nat → Nat) (f : Nat → Int32) (a : Nat → Nat → Int32) (v : Int32) (h : v < 0 ∨ 100 < v) : MI l yX3_setFloor wsX3_setFloor ({ frames := 1, cells := 0, slots := 0, locals := 22 } : Room) [.ref (q 0), .int v] G (mW G q f a) (fun u => mW G q (va_up f 24 1) a) 0 := by
  refine ofMI (cc := cX3_setFloor) (maxL := 3) (ret := (some .int)) (by decide) rfl (Nat.le_of_ble_eq_true rfl) (fun p e s m below meth c A ls F hr hnm hH hl => ?_)
  have F : Fx G p s m _ meth c cX3_setFloor 3 wsX3_setFloor RX3 A := F
  have hx := F.1.1
  have hb := F.1.2.1
  have hl : lv_has ls 3 [(0, .ref (q 0)), (1, .int v)] := hl
  refine lv_aload_n hx hb dX3_setFloor_0 rfl (lv_at hl 0 rfl) ?_
  refine lv_iload_n hx hb dX3_setFloor_1 rfl (lv_at hl 1 rfl) ?_
  refine lv_iconst (v := 0) hx hb dX3_setFloor_2 (by decide) ?_
  refine lv_bipush (v := 100) hx hb dX3_setFloor_3 (by decide) ?_
  refine callSI0 (rest := [.ref (q 0)]) F (c_X3_in_0 l G _ v 0 100 h) gX3_setFloor_X3_in rfl hdX3_in ⟨Nat.le_of_ble_eq_true rfl, Nat.le_of_ble_eq_true rfl⟩ hH rfl hl.1 (Nat.le_of_ble_eq_true rfl) dX3_setFloor_5 ⟨Nat.le_of_ble_eq_true rfl, Nat.le_of_ble_eq_true rfl⟩ rfl (fun u H locs hH => ?_)
  have hH : HH G A s (mW G q f a) H locs := hH
  refine callVI0 (rest := []) F (c_X3_asks_0 l G q f a) gX3_setFloor_X3_asks rfl hdX3_asks ⟨Nat.le_of_ble_eq_true rfl, Nat.le_of_ble_eq_true rfl⟩ hH ⟨0, 3, _, _, rfl, rfl, rfl⟩ rfl hl.1 (Nat.le_of_ble_eq_true rfl) dX3_setFloor_8 ⟨Nat.le_of_ble_eq_true rfl, Nat.le_of_ble_eq_true rfl⟩ rfl (fun u H locs hH => ?_)
  have hH : HH G A s (mW G q (va_up f 24 1) a) H locs := hH
  refine lv_if_ne (tgt := 16) hx hb dX3_setFloor_11 (by decide) (fun c_11 => absurd rfl c_11) (fun c_11 => ?_)
  refine lv_iconst (v := 0) hx hb dX3_setFloor_14 (by decide) ?_
  exact retI F hr rfl (fun _ => 0) hH rfl (Nat.le_of_ble_eq_true rfl) (Nat.le_of_ble_eq_true rfl) dX3_setFloor_15

set_option maxHeartbeats 4000000 in
set_option maxRecDepth 100000 in
theorem c_X3_add_1 (l : Launch) (G : Gx) (q : Nat → Nat) (f : Nat → Int32) (a : Nat → Nat → Int32) (n : Nat) (e0 : f 0 = nI n) (hn : n ≤ 8) (hn9 : n < 8) (v w : Int32) (h1 : 1 ≤ v) (h2 : v ≤ 100000) (hw : w = 0 ∨ w = 1) : MI l yX3_add wsX3_add ({ frames := 1, cells := 0, slots := 0, locals := 22 } : Room) [.ref (q 0), .int v, .int w] G (mW G q f a) (fun u => mW G q (va_up (va_up f 24 0) 0 ((f 0) + 1)) (va_up (va_up a 1 (upd (a 1) n v)) 2 (upd (a 2) n w))) (nI n) := by
  refine ofMI (cc := cX3_add) (maxL := 3) (ret := (some .int)) (by decide) rfl (Nat.le_of_ble_eq_true rfl) (fun p e s m below meth c A ls F hr hnm hH hl => ?_)
  have F : Fx G p s m _ meth c cX3_add 3 wsX3_add RX3 A := F
  have hx := F.1.1
  have hb := F.1.2.1
  have hl : lv_has ls 3 [(0, .ref (q 0)), (1, .int v), (2, .int w)] := hl
  refine lv_aload_n hx hb dX3_add_0 rfl (lv_at hl 0 rfl) ?_
  refine lv_iload_n hx hb dX3_add_1 rfl (lv_at hl 1 rfl) ?_
  refine lv_iconst (v := 1) hx hb dX3_add_2 (by decide) ?_
  refine lv_ldc hx hb F.1.2.2.2.1 (F.1.2.2.2.2 (.constant RX3 81 (100000)) (by decide +kernel)) dX3_add_3 ?_
  refine callSI0 (rest := [.ref (q 0)]) F (c_X3_in_1 l G _ v 1 100000 h1 h2) gX3_add_X3_in rfl hdX3_in ⟨Nat.le_of_ble_eq_true rfl, Nat.le_of_ble_eq_true rfl⟩ hH rfl hl.1 (Nat.le_of_ble_eq_true rfl) dX3_add_5 ⟨Nat.le_of_ble_eq_true rfl, Nat.le_of_ble_eq_true rfl⟩ rfl (fun u H locs hH => ?_)
  have hH : HH G A s (mW G q f a) H locs := hH
  refine callVI0 (rest := []) F (c_X3_asks_1 l G q f a) gX3_add_X3_asks rfl hdX3_asks ⟨Nat.le_of_ble_eq_true rfl, Nat.le_of_ble_eq_true rfl⟩ hH ⟨0, 3, _, _, rfl, rfl, rfl⟩ rfl hl.1 (Nat.le_of_ble_eq_true rfl) dX3_add_8 ⟨Nat.le_of_ble_eq_true rfl, Nat.le_of_ble_eq_true rfl⟩ rfl (fun u H locs hH => ?_)
  have hH : HH G A s (mW G q (va_up f 24 0) a) H locs := hH
  refine lv_if_ne (tgt := 16) hx hb dX3_add_11 (by decide) (fun c_11 => ?_) (fun c_11 => absurd c_11 (by decide))
  refine lv_aload_n hx hb dX3_add_16 rfl (lv_at hl 0 rfl) ?_
  refine rget (C := RX3) (T := TX3) (N := 25) (ref := RX3) F in_X3_add_X3 hH 0 rfl rfl 0 (by decide) (by decide +kernel) (fun _ h9 => h9) (v := .int (f 0)) rfl dX3_add_17 ?_
  refine lv_bipush (v := 8) hx hb dX3_add_20 (by decide) ?_
  refine lv_icmp_ne (tgt := 31) hx hb dX3_add_22 (by decide) (fun c_22 => ?_) (fun c_22 => absurd c_22 (by rw [e0]; exact ne8 hn9))
  refine lv_aload_n hx hb dX3_add_31 rfl (lv_at hl 0 rfl) ?_
  refine rget (C := RX3) (T := TX3) (N := 25) (ref := RX3) F in_X3_add_X3 hH 0 rfl rfl 1 (by decide) (by decide +kernel) (fun _ h9 => h9) (v := .ref (q 1)) rfl dX3_add_32 ?_
  refine lv_aload_n hx hb dX3_add_35 rfl (lv_at hl 0 rfl) ?_
  refine rget (C := RX3) (T := TX3) (N := 25) (ref := RX3) F in_X3_add_X3 hH 0 rfl rfl 0 (by decide) (by decide +kernel) (fun _ h9 => h9) (v := .int (f 0)) rfl dX3_add_36 ?_
  refine lv_iload_n hx hb dX3_add_39 rfl (lv_at hl 1 rfl) ?_
  refine riast F hH 1 (n := 8) (f := a 1) rfl n e0 (by omega) (by decide) dX3_add_40 (fun H locs hH => ?_)
  have hH : HH G A s (mW G q (va_up f 24 0) (va_up a 1 (upd (a 1) n v))) H locs := hH
  refine lv_aload_n hx hb dX3_add_41 rfl (lv_at hl 0 rfl) ?_
  refine rget (C := RX3) (T := TX3) (N := 25) (ref := RX3) F in_X3_add_X3 hH 0 rfl rfl 2 (by decide) (by decide +kernel) (fun _ h9 => h9) (v := .ref (q 2)) rfl dX3_add_42 ?_
  refine lv_aload_n hx hb dX3_add_45 rfl (lv_at hl 0 rfl) ?_
  refine rget (C := RX3) (T := TX3) (N := 25) (ref := RX3) F in_X3_add_X3 hH 0 rfl rfl 0 (by decide) (by decide +kernel) (fun _ h9 => h9) (v := .int (f 0)) rfl dX3_add_46 ?_
  refine lv_iload_n hx hb dX3_add_49 rfl (lv_at hl 2 rfl) ?_
  refine rzast F hH 2 (n := 8) (f := a 2) rfl n e0 (by omega) (by decide) (by rcases hw with e | e <;> subst e <;> rfl) dX3_add_50 (fun H locs hH => ?_)
  have hH : HH G A s (mW G q (va_up f 24 0) (va_up (va_up a 1 (upd (a 1) n v)) 2 (upd (a 2) n w))) H locs := hH
  refine lv_aload_n hx hb dX3_add_51 rfl (lv_at hl 0 rfl) ?_
  refine lv_dup hx hb dX3_add_52 rfl ?_
  refine rget (C := RX3) (T := TX3) (N := 25) (ref := RX3) F in_X3_add_X3 hH 0 rfl rfl 0 (by decide) (by decide +kernel) (fun _ h9 => h9) (v := .int (f 0)) rfl dX3_add_53 ?_
  refine lv_iconst (v := 1) hx hb dX3_add_56 (by decide) ?_
  refine lv_iadd hx hb dX3_add_57 ?_
  refine rput (C := RX3) (T := TX3) (N := 25) (ref := RX3) F in_X3_add_X3 tyX3 tyX3_ok nmX3 hH 0 rfl rfl 0 (by decide) (by decide +kernel) (fun _ h9 => h9) rfl (v := .int ((f 0) + 1)) rfl rfl (Nat.le_of_ble_eq_true rfl) dX3_add_58 (fun H locs hH => ?_)
  have hH : HH G A s (mW G q (va_up (va_up f 24 0) 0 ((f 0) + 1)) (va_up (va_up a 1 (upd (a 1) n v)) 2 (upd (a 2) n w))) H locs := hH
  refine lv_aload_n hx hb dX3_add_61 rfl (lv_at hl 0 rfl) ?_
  refine rget (C := RX3) (T := TX3) (N := 25) (ref := RX3) F in_X3_add_X3 hH 0 rfl rfl 0 (by decide) (by decide +kernel) (fun _ h9 => h9) (v := .int (((f 0) + 1))) rfl dX3_add_62 ?_
  refine lv_iconst (v := 1) hx hb dX3_add_65 (by decide) ?_
  refine lv_isub hx hb dX3_add_66 ?_
  exact retI F hr rfl (fun _ => 0) hH (by rw [e0, nI_1]; exact nI_pred n) (Nat.le_of_ble_eq_true rfl) (Nat.le_of_ble_eq_true rfl) dX3_add_67

set_option maxHeartbeats 4000000 in
set_option maxRecDepth 100000 in
theorem c_X3_add_2 (l : Launch) (G : Gx) (q : Nat → Nat) (f : Nat → Int32) (a : Nat → Nat → Int32) (v w : Int32) (h : v < 1 ∨ 100000 < v) : MI l yX3_add wsX3_add ({ frames := 1, cells := 0, slots := 0, locals := 22 } : Room) [.ref (q 0), .int v, .int w] G (mW G q f a) (fun u => mW G q (va_up f 24 1) a) 0 := by
  refine ofMI (cc := cX3_add) (maxL := 3) (ret := (some .int)) (by decide) rfl (Nat.le_of_ble_eq_true rfl) (fun p e s m below meth c A ls F hr hnm hH hl => ?_)
  have F : Fx G p s m _ meth c cX3_add 3 wsX3_add RX3 A := F
  have hx := F.1.1
  have hb := F.1.2.1
  have hl : lv_has ls 3 [(0, .ref (q 0)), (1, .int v), (2, .int w)] := hl
  refine lv_aload_n hx hb dX3_add_0 rfl (lv_at hl 0 rfl) ?_
  refine lv_iload_n hx hb dX3_add_1 rfl (lv_at hl 1 rfl) ?_
  refine lv_iconst (v := 1) hx hb dX3_add_2 (by decide) ?_
  refine lv_ldc hx hb F.1.2.2.2.1 (F.1.2.2.2.2 (.constant RX3 81 (100000)) (by decide +kernel)) dX3_add_3 ?_
  refine callSI0 (rest := [.ref (q 0)]) F (c_X3_in_0 l G _ v 1 100000 h) gX3_add_X3_in rfl hdX3_in ⟨Nat.le_of_ble_eq_true rfl, Nat.le_of_ble_eq_true rfl⟩ hH rfl hl.1 (Nat.le_of_ble_eq_true rfl) dX3_add_5 ⟨Nat.le_of_ble_eq_true rfl, Nat.le_of_ble_eq_true rfl⟩ rfl (fun u H locs hH => ?_)
  have hH : HH G A s (mW G q f a) H locs := hH
  refine callVI0 (rest := []) F (c_X3_asks_0 l G q f a) gX3_add_X3_asks rfl hdX3_asks ⟨Nat.le_of_ble_eq_true rfl, Nat.le_of_ble_eq_true rfl⟩ hH ⟨0, 3, _, _, rfl, rfl, rfl⟩ rfl hl.1 (Nat.le_of_ble_eq_true rfl) dX3_add_8 ⟨Nat.le_of_ble_eq_true rfl, Nat.le_of_ble_eq_true rfl⟩ rfl (fun u H locs hH => ?_)
  have hH : HH G A s (mW G q (va_up f 24 1) a) H locs := hH
  refine lv_if_ne (tgt := 16) hx hb dX3_add_11 (by decide) (fun c_11 => absurd rfl c_11) (fun c_11 => ?_)
  refine lv_iconst (v := 0) hx hb dX3_add_14 (by decide) ?_
  exact retI F hr rfl (fun _ => 0) hH rfl (Nat.le_of_ble_eq_true rfl) (Nat.le_of_ble_eq_true rfl) dX3_add_15

set_option maxHeartbeats 4000000 in
set_option maxRecDepth 100000 in
theorem c_X3_add_3 (l : Launch) (G : Gx) (q : Nat → Nat) (f : Nat → Int32) (a : Nat → Nat → Int32) (e0 : f 0 = 8) (v w : Int32) (h1 : 1 ≤ v) (h2 : v ≤ 100000) : MI l yX3_add wsX3_add ({ frames := 1, cells := 0, slots := 0, locals := 22 } : Room) [.ref (q 0), .int v, .int w] G (mW G q f a) (fun u => mW G q (va_up f 24 2) a) 0 := by
  refine ofMI (cc := cX3_add) (maxL := 3) (ret := (some .int)) (by decide) rfl (Nat.le_of_ble_eq_true rfl) (fun p e s m below meth c A ls F hr hnm hH hl => ?_)
  have F : Fx G p s m _ meth c cX3_add 3 wsX3_add RX3 A := F
  have hx := F.1.1
  have hb := F.1.2.1
  have hl : lv_has ls 3 [(0, .ref (q 0)), (1, .int v), (2, .int w)] := hl
  refine lv_aload_n hx hb dX3_add_0 rfl (lv_at hl 0 rfl) ?_
  refine lv_iload_n hx hb dX3_add_1 rfl (lv_at hl 1 rfl) ?_
  refine lv_iconst (v := 1) hx hb dX3_add_2 (by decide) ?_
  refine lv_ldc hx hb F.1.2.2.2.1 (F.1.2.2.2.2 (.constant RX3 81 (100000)) (by decide +kernel)) dX3_add_3 ?_
  refine callSI0 (rest := [.ref (q 0)]) F (c_X3_in_1 l G _ v 1 100000 h1 h2) gX3_add_X3_in rfl hdX3_in ⟨Nat.le_of_ble_eq_true rfl, Nat.le_of_ble_eq_true rfl⟩ hH rfl hl.1 (Nat.le_of_ble_eq_true rfl) dX3_add_5 ⟨Nat.le_of_ble_eq_true rfl, Nat.le_of_ble_eq_true rfl⟩ rfl (fun u H locs hH => ?_)
  have hH : HH G A s (mW G q f a) H locs := hH
  refine callVI0 (rest := []) F (c_X3_asks_1 l G q f a) gX3_add_X3_asks rfl hdX3_asks ⟨Nat.le_of_ble_eq_true rfl, Nat.le_of_ble_eq_true rfl⟩ hH ⟨0, 3, _, _, rfl, rfl, rfl⟩ rfl hl.1 (Nat.le_of_ble_eq_true rfl) dX3_add_8 ⟨Nat.le_of_ble_eq_true rfl, Nat.le_of_ble_eq_true rfl⟩ rfl (fun u H locs hH => ?_)
  have hH : HH G A s (mW G q (va_up f 24 0) a) H locs := hH
  refine lv_if_ne (tgt := 16) hx hb dX3_add_11 (by decide) (fun c_11 => ?_) (fun c_11 => absurd c_11 (by decide))
  refine lv_aload_n hx hb dX3_add_16 rfl (lv_at hl 0 rfl) ?_
  refine rget (C := RX3) (T := TX3) (N := 25) (ref := RX3) F in_X3_add_X3 hH 0 rfl rfl 0 (by decide) (by decide +kernel) (fun _ h9 => h9) (v := .int (f 0)) rfl dX3_add_17 ?_
  refine lv_bipush (v := 8) hx hb dX3_add_20 (by decide) ?_
  refine lv_icmp_ne (tgt := 31) hx hb dX3_add_22 (by decide) (fun c_22 => absurd e0 c_22) (fun c_22 => ?_)
  refine lv_aload_n hx hb dX3_add_25 rfl (lv_at hl 0 rfl) ?_
  refine lv_iconst (v := 2) hx hb dX3_add_26 (by decide) ?_
  refine callVI0 (rest := []) F (c_X3_fails l G q (va_up f 24 0) a 2) gX3_add_X3_fails rfl hdX3_fails ⟨Nat.le_of_ble_eq_true rfl, Nat.le_of_ble_eq_true rfl⟩ hH ⟨0, 3, _, _, rfl, rfl, rfl⟩ rfl hl.1 (Nat.le_of_ble_eq_true rfl) dX3_add_27 ⟨Nat.le_of_ble_eq_true rfl, Nat.le_of_ble_eq_true rfl⟩ rfl (fun u H locs hH => ?_)
  have hH : HH G A s (mW G q (va_up f 24 2) a) H locs := hH
  exact retI F hr rfl (fun _ => 0) hH rfl (Nat.le_of_ble_eq_true rfl) (Nat.le_of_ble_eq_true rfl) dX3_add_30

set_option maxHeartbeats 4000000 in
set_option maxRecDepth 100000 in
theorem c_X3_cutOf (l : Launch) (G : Gx) (q : Nat → Nat) (f : Nat → Int32) (a : Nat → Nat → Int32) (i : Nat) (hi : i < 8) (cn : Nat) (e3 : a 3 i = nI cn) (hcn : cn ≤ 30) (x : Int32) : MI l yX3_cutOf wsX3_cutOf ({ frames := 0, cells := 0, slots := 0, locals := 0 } : Room) [.ref (q 0), .int (nI i), .int x] G (mW G q f a) (fun u => mW G q f a) (cutM a i x cn) := by
  refine ofMI (cc := cX3_cutOf) (maxL := 5) (ret := (some .int)) (by decide) rfl (Nat.le_of_ble_eq_true rfl) (fun p e s m below meth c A ls F hr hnm hH hl => ?_)
  have F : Fx G p s m _ meth c cX3_cutOf 5 wsX3_cutOf RX3 A := F
  have hx := F.1.1
  have hb := F.1.2.1
  have hl : lv_has ls 5 [(0, .ref (q 0)), (1, .int (nI i)), (2, .int x)] := hl
  refine lv_iconst (v := 0) hx hb dX3_cutOf_0 (by decide) ?_
  refine lv_istore_n (lv' := [(3, .int 0), (0, .ref (q 0)), (1, .int (nI i)), (2, .int x)]) hx hb dX3_cutOf_1 rfl hl (by decide) rfl (fun ls hl => ?_)
  refine lv_bipush (v := 30) hx hb dX3_cutOf_2 (by decide) ?_
  refine lv_iload_n hx hb dX3_cutOf_4 rfl (lv_at hl 2 rfl) ?_
  refine lv_imul hx hb dX3_cutOf_5 ?_
  refine lv_istore (lv' := [(4, .int (30 * (nI i))), (3, .int 0), (0, .ref (q 0)), (1, .int (nI i)), (2, .int x)]) hx hb dX3_cutOf_6 hl (by decide) rfl (fun ls hl => ?_)
  have loop : ∀ (n9 : Nat) (k : Nat) (hc9 : k + n9 = cn)  (H : Heap) (locs : List Loc) (ls : Array Slot), HH G A s (mW G q f a) H locs → lv_has ls 5 [(4, .int (nI (30 * i + k))), (3, .int (cutM a i x k)), (0, .ref (q 0)), (1, .int (nI i)), (2, .int x)] → W p l e ({ frames := 0, cells := 0, slots := 0, locals := 0 } : Room) s m [.ref (q 0), .int (nI i), .int x].toArray below meth c H locs 0 0 (EnI G A below s [.ref (q 0), .int (nI i), .int x].toArray ({ frames := 0, cells := 0, slots := 0, locals := 0 } : Room) (fun u => mW G q f a) (cutM a i x cn)) (F0 m 8 ls []) := by
    intro n9
    induction n9 with
    | zero =>
      intro k hc9  H locs ls hH hl
      refine lv_iload hx hb dX3_cutOf_8 (lv_at hl 0 rfl) ?_
      refine lv_bipush (v := 30) hx hb dX3_cutOf_10 (by decide) ?_
      refine lv_iload_n hx hb dX3_cutOf_12 rfl (lv_at hl 3 rfl) ?_
      refine lv_imul hx hb dX3_cutOf_13 ?_
      refine lv_aload_n hx hb dX3_cutOf_14 rfl (lv_at hl 2 rfl) ?_
      refine rget (C := RX3) (T := TX3) (N := 25) (ref := RX3) F in_X3_cutOf_X3 hH 0 rfl rfl 3 (by decide) (by decide +kernel) (fun _ h9 => h9) (v := .ref (q 3)) rfl dX3_cutOf_15 ?_
      refine lv_iload_n hx hb dX3_cutOf_18 rfl (lv_at hl 3 rfl) ?_
      refine riald F hH 3 (n := 8) (f := a 3) rfl i rfl (by omega) (by decide) dX3_cutOf_19 ?_
      refine lv_iadd hx hb dX3_cutOf_20 ?_
      refine lv_icmp_ge (tgt := 64) hx hb dX3_cutOf_21 (by decide) (fun c_21 => ?_) (fun c_21 => absurd (by rw [e3, ix30]; exact nI_le (by omega) (by omega)) c_21)
      refine lv_iload_n hx hb dX3_cutOf_64 rfl (lv_at hl 1 rfl) ?_
      exact retI F hr rfl (fun _ => 0) hH (by rw [show k = cn by omega]) (Nat.le_of_ble_eq_true rfl) (Nat.le_of_ble_eq_true rfl) dX3_cutOf_65
    | succ n9 ih =>
      intro k hc9  H locs ls hH hl
      refine lv_iload hx hb dX3_cutOf_8 (lv_at hl 0 rfl) ?_
      refine lv_bipush (v := 30) hx hb dX3_cutOf_10 (by decide) ?_
      refine lv_iload_n hx hb dX3_cutOf_12 rfl (lv_at hl 3 rfl) ?_
      refine lv_imul hx hb dX3_cutOf_13 ?_
      refine lv_aload_n hx hb dX3_cutOf_14 rfl (lv_at hl 2 rfl) ?_
      refine rget (C := RX3) (T := TX3) (N := 25) (ref := RX3) F in_X3_cutOf_X3 hH 0 rfl rfl 3 (by decide) (by decide +kernel) (fun _ h9 => h9) (v := .ref (q 3)) rfl dX3_cutOf_15 ?_
      refine lv_iload_n hx hb dX3_cutOf_18 rfl (lv_at hl 3 rfl) ?_
      refine riald F hH 3 (n := 8) (f := a 3) rfl i rfl (by omega) (by decide) dX3_cutOf_19 ?_
      refine lv_iadd hx hb dX3_cutOf_20 ?_
      refine lv_icmp_ge (tgt := 64) hx hb dX3_cutOf_21 (by decide) (fun c_21 => absurd c_21 (by rw [e3, ix30]; exact nI_ge (by omega) (by omega))) (fun c_21 => ?_)
      refine lv_iload_n hx hb dX3_cutOf_24 rfl (lv_at hl 4 rfl) ?_
      refine lv_aload_n hx hb dX3_cutOf_25 rfl (lv_at hl 2 rfl) ?_
      refine rget (C := RX3) (T := TX3) (N := 25) (ref := RX3) F in_X3_cutOf_X3 hH 0 rfl rfl 4 (by decide) (by decide +kernel) (fun _ h9 => h9) (v := .ref (q 4)) rfl dX3_cutOf_26 ?_
      refine lv_iload hx hb dX3_cutOf_29 (lv_at hl 0 rfl) ?_
      refine riald F hH 4 (n := 240) (f := a 4) rfl (30 * i + k) rfl (by omega) (by decide) dX3_cutOf_31 ?_
      refine lv_icmp_lt (tgt := 56) hx hb dX3_cutOf_32 (by decide) (fun c_32 => ?_) (fun c_32 => ?_)
      · refine lv_iload_n hx hb dX3_cutOf_56 rfl (lv_at hl 1 rfl) ?_
        refine lv_istore_n (lv' := [(3, .int (cutM a i x k)), (4, .int (nI (30 * i + k))), (0, .ref (q 0)), (1, .int (nI i)), (2, .int x)]) hx hb dX3_cutOf_57 rfl hl (by decide) rfl (fun ls hl => ?_)
        refine lv_iinc (v := (nI ((30 * i + k) + 1))) (lv' := [(4, .int (nI ((30 * i + k) + 1))), (3, .int (cutM a i x k)), (0, .ref (q 0)), (1, .int (nI i)), (2, .int x)]) hx hb dX3_cutOf_58 hl (k := 1) rfl (nI_1 (30 * i + k)) (by decide) rfl (fun ls hl => ?_)
        refine lv_goto (tgt := 8) hx hb dX3_cutOf_61 (by decide) ?_
        exact ih (k + 1) (by omega) _ _ _ hH (lv_sub hl [0, 1, 2, 3, 4] (by unfold cutM; rw [cutN_a c_32]; rfl))
      · refine lv_iload_n hx hb dX3_cutOf_35 rfl (lv_at hl 4 rfl) ?_
        refine lv_aload_n hx hb dX3_cutOf_36 rfl (lv_at hl 2 rfl) ?_
        refine rget (C := RX3) (T := TX3) (N := 25) (ref := RX3) F in_X3_cutOf_X3 hH 0 rfl rfl 5 (by decide) (by decide +kernel) (fun _ h9 => h9) (v := .ref (q 5)) rfl dX3_cutOf_37 ?_
        refine lv_iload hx hb dX3_cutOf_40 (lv_at hl 0 rfl) ?_
        refine riald F hH 5 (n := 240) (f := a 5) rfl (30 * i + k) rfl (by omega) (by decide) dX3_cutOf_42 ?_
        refine lv_icmp_gt (tgt := 56) hx hb dX3_cutOf_43 (by decide) (fun c_43 => ?_) (fun c_43 => ?_)
        · refine lv_iload_n hx hb dX3_cutOf_56 rfl (lv_at hl 1 rfl) ?_
          refine lv_istore_n (lv' := [(3, .int (cutM a i x k)), (4, .int (nI (30 * i + k))), (0, .ref (q 0)), (1, .int (nI i)), (2, .int x)]) hx hb dX3_cutOf_57 rfl hl (by decide) rfl (fun ls hl => ?_)
          refine lv_iinc (v := (nI ((30 * i + k) + 1))) (lv' := [(4, .int (nI ((30 * i + k) + 1))), (3, .int (cutM a i x k)), (0, .ref (q 0)), (1, .int (nI i)), (2, .int x)]) hx hb dX3_cutOf_58 hl (k := 1) rfl (nI_1 (30 * i + k)) (by decide) rfl (fun ls hl => ?_)
          refine lv_goto (tgt := 8) hx hb dX3_cutOf_61 (by decide) ?_
          exact ih (k + 1) (by omega) _ _ _ hH (lv_sub hl [0, 1, 2, 3, 4] (by unfold cutM; rw [cutN_b c_32 c_43]; rfl))
        · refine lv_aload_n hx hb dX3_cutOf_46 rfl (lv_at hl 2 rfl) ?_
          refine rget (C := RX3) (T := TX3) (N := 25) (ref := RX3) F in_X3_cutOf_X3 hH 0 rfl rfl 6 (by decide) (by decide +kernel) (fun _ h9 => h9) (v := .ref (q 6)) rfl dX3_cutOf_47 ?_
          refine lv_iload hx hb dX3_cutOf_50 (lv_at hl 0 rfl) ?_
          refine riald F hH 6 (n := 240) (f := a 6) rfl (30 * i + k) rfl (by omega) (by decide) dX3_cutOf_52 ?_
          refine lv_goto (tgt := 57) hx hb dX3_cutOf_53 (by decide) ?_
          refine lv_istore_n (lv' := [(3, .int (a 6 (30 * i + k))), (4, .int (nI (30 * i + k))), (0, .ref (q 0)), (1, .int (nI i)), (2, .int x)]) hx hb dX3_cutOf_57 rfl hl (by decide) rfl (fun ls hl => ?_)
          refine lv_iinc (v := (nI ((30 * i + k) + 1))) (lv' := [(4, .int (nI ((30 * i + k) + 1))), (3, .int (a 6 (30 * i + k))), (0, .ref (q 0)), (1, .int (nI i)), (2, .int x)]) hx hb dX3_cutOf_58 hl (k := 1) rfl (nI_1 (30 * i + k)) (by decide) rfl (fun ls hl => ?_)
          refine lv_goto (tgt := 8) hx hb dX3_cutOf_61 (by decide) ?_
          exact ih (k + 1) (by omega) _ _ _ hH (lv_sub hl [0, 1, 2, 3, 4] (by unfold cutM; rw [cutN_c c_32 c_43]; rfl))
  exact loop cn 0 (by omega) _ _ _ hH (lv_sub hl [0, 1, 2, 3, 4] (by rw [ixm30]; rfl))

set_option maxHeartbeats 4000000 in
set_option maxRecDepth 100000 in
theorem c_X3_cut_1 (l : Launch) (G : Gx) (q : Nat → Nat) (f : Nat → Int32) (a : Nat → Nat → Int32) (n : Nat) (e0 : f 0 = nI n) (hn : n ≤ 8) (i : Nat) (hi : i < n) (cn : Nat) (e3 : a 3 i = nI cn) (hcn : cn ≤ 30) (j : Nat) (hj : j ≤ 200) : MI l yX3_cut wsX3_cut ({ frames := 1, cells := 0, slots := 0, locals := 24 } : Room) [.ref (q 0), .int (nI i), .int (nI j)] G (mW G q f a) (fun u => mW G q (va_up f 24 0) a) (cutM a i (nI j) cn) := by
  refine ofMI (cc := cX3_cut) (maxL := 3) (ret := (some .int)) (by decide) rfl (Nat.le_of_ble_eq_true rfl) (fun p e s m below meth c A ls F hr hnm hH hl => ?_)
  have F : Fx G p s m _ meth c cX3_cut 3 wsX3_cut RX3 A := F
  have hx := F.1.1
  have hb := F.1.2.1
  have hl : lv_has ls 3 [(0, .ref (q 0)), (1, .int (nI i)), (2, .int (nI j))] := hl
  refine lv_aload_n hx hb dX3_cut_0 rfl (lv_at hl 0 rfl) ?_
  refine lv_aload_n hx hb dX3_cut_1 rfl (lv_at hl 0 rfl) ?_
  refine lv_iload_n hx hb dX3_cut_2 rfl (lv_at hl 1 rfl) ?_
  refine callVI0 (rest := [.ref (q 0)]) F (c_X3_isWorker_1 l G q f a n e0 hn i hi) gX3_cut_X3_isWorker rfl hdX3_isWorker ⟨Nat.le_of_ble_eq_true rfl, Nat.le_of_ble_eq_true rfl⟩ hH ⟨0, 3, _, _, rfl, rfl, rfl⟩ rfl hl.1 (Nat.le_of_ble_eq_true rfl) dX3_cut_3 ⟨Nat.le_of_ble_eq_true rfl, Nat.le_of_ble_eq_true rfl⟩ rfl (fun u H locs hH => ?_)
  have hH : HH G A s (mW G q f a) H locs := hH
  refine callVI0 (rest := []) F (c_X3_asks_1 l G q f a) gX3_cut_X3_asks rfl hdX3_asks ⟨Nat.le_of_ble_eq_true rfl, Nat.le_of_ble_eq_true rfl⟩ hH ⟨0, 3, _, _, rfl, rfl, rfl⟩ rfl hl.1 (Nat.le_of_ble_eq_true rfl) dX3_cut_6 ⟨Nat.le_of_ble_eq_true rfl, Nat.le_of_ble_eq_true rfl⟩ rfl (fun u H locs hH => ?_)
  have hH : HH G A s (mW G q (va_up f 24 0) a) H locs := hH
  refine lv_if_ne (tgt := 14) hx hb dX3_cut_9 (by decide) (fun c_9 => ?_) (fun c_9 => absurd c_9 (by decide))
  refine lv_iload_n hx hb dX3_cut_14 rfl (lv_at hl 2 rfl) ?_
  refine lv_iconst (v := 0) hx hb dX3_cut_15 (by decide) ?_
  refine lv_sipush (v := 200) hx hb dX3_cut_16 (by decide) ?_
  refine callSI0 (rest := []) F (c_X3_in_1 l G _ (nI j) 0 200 (nI_pos' (by omega)) (nI_le (a := j) (b := 200) hj (by decide))) gX3_cut_X3_in rfl hdX3_in ⟨Nat.le_of_ble_eq_true rfl, Nat.le_of_ble_eq_true rfl⟩ hH rfl hl.1 (Nat.le_of_ble_eq_true rfl) dX3_cut_19 ⟨Nat.le_of_ble_eq_true rfl, Nat.le_of_ble_eq_true rfl⟩ rfl (fun u H locs hH => ?_)
  have hH : HH G A s (mW G q (va_up f 24 0) a) H locs := hH
  refine lv_if_eq (tgt := 34) hx hb dX3_cut_22 (by decide) (fun c_22 => absurd c_22 (by decide)) (fun c_22 => ?_)
  refine lv_aload_n hx hb dX3_cut_25 rfl (lv_at hl 0 rfl) ?_
  refine lv_iload_n hx hb dX3_cut_26 rfl (lv_at hl 1 rfl) ?_
  refine lv_iload_n hx hb dX3_cut_27 rfl (lv_at hl 2 rfl) ?_
  refine callVI0 (rest := []) F (c_X3_cutOf l G q (va_up f 24 0) a i (by omega) cn e3 hcn (nI j)) gX3_cut_X3_cutOf rfl hdX3_cutOf ⟨Nat.le_of_ble_eq_true rfl, Nat.le_of_ble_eq_true rfl⟩ hH ⟨0, 3, _, _, rfl, rfl, rfl⟩ rfl hl.1 (Nat.le_of_ble_eq_true rfl) dX3_cut_28 ⟨Nat.le_of_ble_eq_true rfl, Nat.le_of_ble_eq_true rfl⟩ rfl (fun u H locs hH => ?_)
  have hH : HH G A s (mW G q (va_up f 24 0) a) H locs := hH
  refine lv_goto (tgt := 39) hx hb dX3_cut_31 (by decide) ?_
  exact retI F hr rfl (fun _ => 0) hH rfl (Nat.le_of_ble_eq_true rfl) (Nat.le_of_ble_eq_true rfl) dX3_cut_39

set_option maxHeartbeats 4000000 in
set_option maxRecDepth 100000 in
theorem c_X3_cut_2 (l : Launch) (G : Gx) (q : Nat → Nat) (f : Nat → Int32) (a : Nat → Nat → Int32) (n : Nat) (e0 : f 0 = nI n) (hn : n ≤ 8) (i : Nat) (hi : i < n) (w : Int32) (h : w < 0 ∨ 200 < w) : MI l yX3_cut wsX3_cut ({ frames := 1, cells := 0, slots := 0, locals := 22 } : Room) [.ref (q 0), .int (nI i), .int w] G (mW G q f a) (fun u => mW G q (va_up f 24 2) a) 0 := by
  refine ofMI (cc := cX3_cut) (maxL := 3) (ret := (some .int)) (by decide) rfl (Nat.le_of_ble_eq_true rfl) (fun p e s m below meth c A ls F hr hnm hH hl => ?_)
  have F : Fx G p s m _ meth c cX3_cut 3 wsX3_cut RX3 A := F
  have hx := F.1.1
  have hb := F.1.2.1
  have hl : lv_has ls 3 [(0, .ref (q 0)), (1, .int (nI i)), (2, .int w)] := hl
  refine lv_aload_n hx hb dX3_cut_0 rfl (lv_at hl 0 rfl) ?_
  refine lv_aload_n hx hb dX3_cut_1 rfl (lv_at hl 0 rfl) ?_
  refine lv_iload_n hx hb dX3_cut_2 rfl (lv_at hl 1 rfl) ?_
  refine callVI0 (rest := [.ref (q 0)]) F (c_X3_isWorker_1 l G q f a n e0 hn i hi) gX3_cut_X3_isWorker rfl hdX3_isWorker ⟨Nat.le_of_ble_eq_true rfl, Nat.le_of_ble_eq_true rfl⟩ hH ⟨0, 3, _, _, rfl, rfl, rfl⟩ rfl hl.1 (Nat.le_of_ble_eq_true rfl) dX3_cut_3 ⟨Nat.le_of_ble_eq_true rfl, Nat.le_of_ble_eq_true rfl⟩ rfl (fun u H locs hH => ?_)
  have hH : HH G A s (mW G q f a) H locs := hH
  refine callVI0 (rest := []) F (c_X3_asks_1 l G q f a) gX3_cut_X3_asks rfl hdX3_asks ⟨Nat.le_of_ble_eq_true rfl, Nat.le_of_ble_eq_true rfl⟩ hH ⟨0, 3, _, _, rfl, rfl, rfl⟩ rfl hl.1 (Nat.le_of_ble_eq_true rfl) dX3_cut_6 ⟨Nat.le_of_ble_eq_true rfl, Nat.le_of_ble_eq_true rfl⟩ rfl (fun u H locs hH => ?_)
  have hH : HH G A s (mW G q (va_up f 24 0) a) H locs := hH
  refine lv_if_ne (tgt := 14) hx hb dX3_cut_9 (by decide) (fun c_9 => ?_) (fun c_9 => absurd c_9 (by decide))
  refine lv_iload_n hx hb dX3_cut_14 rfl (lv_at hl 2 rfl) ?_
  refine lv_iconst (v := 0) hx hb dX3_cut_15 (by decide) ?_
  refine lv_sipush (v := 200) hx hb dX3_cut_16 (by decide) ?_
  refine callSI0 (rest := []) F (c_X3_in_0 l G _ w 0 200 h) gX3_cut_X3_in rfl hdX3_in ⟨Nat.le_of_ble_eq_true rfl, Nat.le_of_ble_eq_true rfl⟩ hH rfl hl.1 (Nat.le_of_ble_eq_true rfl) dX3_cut_19 ⟨Nat.le_of_ble_eq_true rfl, Nat.le_of_ble_eq_true rfl⟩ rfl (fun u H locs hH => ?_)
  have hH : HH G A s (mW G q (va_up f 24 0) a) H locs := hH
  refine lv_if_eq (tgt := 34) hx hb dX3_cut_22 (by decide) (fun c_22 => ?_) (fun c_22 => absurd rfl c_22)
  refine lv_aload_n hx hb dX3_cut_34 rfl (lv_at hl 0 rfl) ?_
  refine lv_iconst (v := 2) hx hb dX3_cut_35 (by decide) ?_
  refine callVI0 (rest := []) F (c_X3_fails l G q (va_up f 24 0) a 2) gX3_cut_X3_fails rfl hdX3_fails ⟨Nat.le_of_ble_eq_true rfl, Nat.le_of_ble_eq_true rfl⟩ hH ⟨0, 3, _, _, rfl, rfl, rfl⟩ rfl hl.1 (Nat.le_of_ble_eq_true rfl) dX3_cut_36 ⟨Nat.le_of_ble_eq_true rfl, Nat.le_of_ble_eq_true rfl⟩ rfl (fun u H locs hH => ?_)
  have hH : HH G A s (mW G q (va_up f 24 2) a) H locs := hH
  exact retI F hr rfl (fun _ => 0) hH rfl (Nat.le_of_ble_eq_true rfl) (Nat.le_of_ble_eq_true rfl) dX3_cut_39

set_option maxHeartbeats 4000000 in
set_option maxRecDepth 100000 in
theorem c_X3_cut_0 (l : Launch) (G : Gx) (q : Nat → Nat) (f : Nat → Int32) (a : Nat → Nat → Int32) (n : Nat) (e0 : f 0 = nI n) (hn : n ≤ 8) (v : Int32) (h : v < 0 ∨ nI n ≤ v) (w : Int32) : MI l yX3_cut wsX3_cut ({ frames := 1, cells := 0, slots := 0, locals := 21 } : Room) [.ref (q 0), .int v, .int w] G (mW G q f a) (fun u => mW G q (va_up f 24 1) a) 0 := by
  refine ofMI (cc := cX3_cut) (maxL := 3) (ret := (some .int)) (by decide) rfl (Nat.le_of_ble_eq_true rfl) (fun p e s m below meth c A ls F hr hnm hH hl => ?_)
  have F : Fx G p s m _ meth c cX3_cut 3 wsX3_cut RX3 A := F
  have hx := F.1.1
  have hb := F.1.2.1
  have hl : lv_has ls 3 [(0, .ref (q 0)), (1, .int v), (2, .int w)] := hl
  refine lv_aload_n hx hb dX3_cut_0 rfl (lv_at hl 0 rfl) ?_
  refine lv_aload_n hx hb dX3_cut_1 rfl (lv_at hl 0 rfl) ?_
  refine lv_iload_n hx hb dX3_cut_2 rfl (lv_at hl 1 rfl) ?_
  refine callVI0 (rest := [.ref (q 0)]) F (c_X3_isWorker_0 l G q f a n e0 hn v h) gX3_cut_X3_isWorker rfl hdX3_isWorker ⟨Nat.le_of_ble_eq_true rfl, Nat.le_of_ble_eq_true rfl⟩ hH ⟨0, 3, _, _, rfl, rfl, rfl⟩ rfl hl.1 (Nat.le_of_ble_eq_true rfl) dX3_cut_3 ⟨Nat.le_of_ble_eq_true rfl, Nat.le_of_ble_eq_true rfl⟩ rfl (fun u H locs hH => ?_)
  have hH : HH G A s (mW G q f a) H locs := hH
  refine callVI0 (rest := []) F (c_X3_asks_0 l G q f a) gX3_cut_X3_asks rfl hdX3_asks ⟨Nat.le_of_ble_eq_true rfl, Nat.le_of_ble_eq_true rfl⟩ hH ⟨0, 3, _, _, rfl, rfl, rfl⟩ rfl hl.1 (Nat.le_of_ble_eq_true rfl) dX3_cut_6 ⟨Nat.le_of_ble_eq_true rfl, Nat.le_of_ble_eq_true rfl⟩ rfl (fun u H locs hH => ?_)
  have hH : HH G A s (mW G q (va_up f 24 1) a) H locs := hH
  refine lv_if_ne (tgt := 14) hx hb dX3_cut_9 (by decide) (fun c_9 => absurd rfl c_9) (fun c_9 => ?_)
  refine lv_iconst (v := 0) hx hb dX3_cut_12 (by decide) ?_
  exact retI F hr rfl (fun _ => 0) hH rfl (Nat.le_of_ble_eq_true rfl) (Nat.le_of_ble_eq_true rfl) dX3_cut_13

set_option maxHeartbeats 4000000 in
set_option maxRecDepth 100000 in
theorem c_X3_fills (l : Launch) (G : Gx) (q : Nat → Nat) (f : Nat → Int32) (a : Nat → Nat → Int32) (i : Nat) (hi : i < 8) (cn : Nat) (e3 : a 3 i = nI cn) (hcn : cn ≤ 30) (nc : Nat) (e10 : f 10 = nI nc) (hnc : nc ≤ 10) (x : Int32) : MI l yX3_fills wsX3_fills ({ frames := 1, cells := 0, slots := 0, locals := 24 } : Room) [.ref (q 0), .int (nI i), .int x] G (mW G q f a) (fun u => mW G q f a) (fillsN a i x (cutM a i x cn) nc) := by
  refine ofMI (cc := cX3_fills) (maxL := 5) (ret := (some .boolean)) (by decide) rfl (Nat.le_of_ble_eq_true rfl) (fun p e s m below meth c A ls F hr hnm hH hl => ?_)
  have F : Fx G p s m _ meth c cX3_fills 5 wsX3_fills RX3 A := F
  have hx := F.1.1
  have hb := F.1.2.1
  have hl : lv_has ls 5 [(0, .ref (q 0)), (1, .int (nI i)), (2, .int x)] := hl
  refine lv_iconst (v := 0) hx hb dX3_fills_0 (by decide) ?_
  refine lv_istore_n (lv' := [(3, .int 0), (0, .ref (q 0)), (1, .int (nI i)), (2, .int x)]) hx hb dX3_fills_1 rfl hl (by decide) rfl (fun ls hl => ?_)
  refine lv_iconst (v := 0) hx hb dX3_fills_2 (by decide) ?_
  refine lv_istore (lv' := [(4, .int 0), (3, .int 0), (0, .ref (q 0)), (1, .int (nI i)), (2, .int x)]) hx hb dX3_fills_3 hl (by decide) rfl (fun ls hl => ?_)
  have loop : ∀ (n9 : Nat) (k : Nat) (hc9 : k + n9 = nc)  (H : Heap) (locs : List Loc) (ls : Array Slot), HH G A s (mW G q f a) H locs → lv_has ls 5 [(4, .int (nI k)), (3, .int (fillsN a i x (cutM a i x cn) k)), (0, .ref (q 0)), (1, .int (nI i)), (2, .int x)] → W p l e ({ frames := 1, cells := 0, slots := 0, locals := 24 } : Room) s m [.ref (q 0), .int (nI i), .int x].toArray below meth c H locs 0 0 (EnI G A below s [.ref (q 0), .int (nI i), .int x].toArray ({ frames := 1, cells := 0, slots := 0, locals := 24 } : Room) (fun u => mW G q f a) (fillsN a i x (cutM a i x cn) nc)) (F0 m 5 ls []) := by
    intro n9
    induction n9 with
    | zero =>
      intro k hc9  H locs ls hH hl
      refine lv_iload hx hb dX3_fills_5 (lv_at hl 0 rfl) ?_
      refine lv_aload_n hx hb dX3_fills_7 rfl (lv_at hl 2 rfl) ?_
      refine rget (C := RX3) (T := TX3) (N := 25) (ref := RX3) F in_X3_fills_X3 hH 0 rfl rfl 10 (by decide) (by decide +kernel) (fun _ h9 => h9) (v := .int (f 10)) rfl dX3_fills_8 ?_
      refine lv_icmp_ge (tgt := 85) hx hb dX3_fills_11 (by decide) (fun c_11 => ?_) (fun c_11 => absurd (by rw [e10]; exact nI_le (by omega) (by omega)) c_11)
      refine lv_iload_n hx hb dX3_fills_85 rfl (lv_at hl 1 rfl) ?_
      exact retI F hr (nar01 (fillsN_01 _)) (fun _ => 0) hH (by rw [show k = nc by omega]) (Nat.le_of_ble_eq_true rfl) (Nat.le_of_ble_eq_true rfl) dX3_fills_86
    | succ n9 ih =>
      intro k hc9  H locs ls hH hl
      refine lv_iload hx hb dX3_fills_5 (lv_at hl 0 rfl) ?_
      refine lv_aload_n hx hb dX3_fills_7 rfl (lv_at hl 2 rfl) ?_
      refine rget (C := RX3) (T := TX3) (N := 25) (ref := RX3) F in_X3_fills_X3 hH 0 rfl rfl 10 (by decide) (by decide +kernel) (fun _ h9 => h9) (v := .int (f 10)) rfl dX3_fills_8 ?_
      refine lv_icmp_ge (tgt := 85) hx hb dX3_fills_11 (by decide) (fun c_11 => absurd c_11 (by rw [e10]; exact nI_ge (by omega) (by omega))) (fun c_11 => ?_)
      refine lv_iload_n hx hb dX3_fills_14 rfl (lv_at hl 1 rfl) ?_
      refine lv_if_ne (tgt := 73) hx hb dX3_fills_15 (by decide) (fun c_15 => ?_) (fun c_15 => ?_)
      · refine lv_iconst (v := 1) hx hb dX3_fills_73 (by decide) ?_
        refine lv_goto (tgt := 78) hx hb dX3_fills_74 (by decide) ?_
        refine lv_istore_n (lv' := [(3, .int 1), (4, .int (nI k)), (0, .ref (q 0)), (1, .int (nI i)), (2, .int x)]) hx hb dX3_fills_78 rfl hl (by decide) rfl (fun ls hl => ?_)
        refine lv_iinc (v := (nI (k + 1))) (lv' := [(4, .int (nI (k + 1))), (3, .int 1), (0, .ref (q 0)), (1, .int (nI i)), (2, .int x)]) hx hb dX3_fills_79 hl (k := 1) rfl (nI_1 k) (by decide) rfl (fun ls hl => ?_)
        refine lv_goto (tgt := 5) hx hb dX3_fills_82 (by decide) ?_
        exact ih (k + 1) (by omega) _ _ _ hH (lv_sub hl [0, 1, 2, 3, 4] (by rw [fillsN_1 c_15]; rfl))
      · refine lv_aload_n hx hb dX3_fills_18 rfl (lv_at hl 2 rfl) ?_
        refine rget (C := RX3) (T := TX3) (N := 25) (ref := RX3) F in_X3_fills_X3 hH 0 rfl rfl 15 (by decide) (by decide +kernel) (fun _ h9 => h9) (v := .ref (q 15)) rfl dX3_fills_19 ?_
        refine lv_bipush (v := 8) hx hb dX3_fills_22 (by decide) ?_
        refine lv_iload hx hb dX3_fills_24 (lv_at hl 0 rfl) ?_
        refine lv_imul hx hb dX3_fills_26 ?_
        refine lv_iload_n hx hb dX3_fills_27 rfl (lv_at hl 3 rfl) ?_
        refine lv_iadd hx hb dX3_fills_28 ?_
        refine rzald F hH 13 (n := 80) (f := a 15) rfl (8 * k + i) (ix8 k i) (by omega) (by decide) dX3_fills_29 ?_
        refine lv_if_eq (tgt := 77) hx hb dX3_fills_30 (by decide) (fun c_30 => ?_) (fun c_30 => ?_)
        · refine lv_iconst (v := 0) hx hb dX3_fills_77 (by decide) ?_
          refine lv_istore_n (lv' := [(3, .int 0), (4, .int (nI k)), (0, .ref (q 0)), (1, .int (nI i)), (2, .int x)]) hx hb dX3_fills_78 rfl hl (by decide) rfl (fun ls hl => ?_)
          refine lv_iinc (v := (nI (k + 1))) (lv' := [(4, .int (nI (k + 1))), (3, .int 0), (0, .ref (q 0)), (1, .int (nI i)), (2, .int x)]) hx hb dX3_fills_79 hl (k := 1) rfl (nI_1 k) (by decide) rfl (fun ls hl => ?_)
          refine lv_goto (tgt := 5) hx hb dX3_fills_82 (by decide) ?_
          exact ih (k + 1) (by omega) _ _ _ hH (lv_sub hl [0, 1, 2, 3, 4] (by rw [fillsN_0 c_15]; unfold fillC; rw [if_pos c_30]; rfl))
        · refine lv_iload_n hx hb dX3_fills_33 rfl (lv_at hl 4 rfl) ?_
          refine lv_aload_n hx hb dX3_fills_34 rfl (lv_at hl 2 rfl) ?_
          refine rget (C := RX3) (T := TX3) (N := 25) (ref := RX3) F in_X3_fills_X3 hH 0 rfl rfl 12 (by decide) (by decide +kernel) (fun _ h9 => h9) (v := .ref (q 12)) rfl dX3_fills_35 ?_
          refine lv_iload hx hb dX3_fills_38 (lv_at hl 0 rfl) ?_
          refine riald F hH 10 (n := 10) (f := a 12) rfl k rfl (by omega) (by decide) dX3_fills_40 ?_
          refine lv_icmp_lt (tgt := 77) hx hb dX3_fills_41 (by decide) (fun c_41 => ?_) (fun c_41 => ?_)
          · refine lv_iconst (v := 0) hx hb dX3_fills_77 (by decide) ?_
            refine lv_istore_n (lv' := [(3, .int 0), (4, .int (nI k)), (0, .ref (q 0)), (1, .int (nI i)), (2, .int x)]) hx hb dX3_fills_78 rfl hl (by decide) rfl (fun ls hl => ?_)
            refine lv_iinc (v := (nI (k + 1))) (lv' := [(4, .int (nI (k + 1))), (3, .int 0), (0, .ref (q 0)), (1, .int (nI i)), (2, .int x)]) hx hb dX3_fills_79 hl (k := 1) rfl (nI_1 k) (by decide) rfl (fun ls hl => ?_)
            refine lv_goto (tgt := 5) hx hb dX3_fills_82 (by decide) ?_
            exact ih (k + 1) (by omega) _ _ _ hH (lv_sub hl [0, 1, 2, 3, 4] (by rw [fillsN_0 c_15]; unfold fillC; rw [if_neg c_30, if_pos c_41]; rfl))
          · refine lv_iload_n hx hb dX3_fills_44 rfl (lv_at hl 4 rfl) ?_
            refine lv_aload_n hx hb dX3_fills_45 rfl (lv_at hl 2 rfl) ?_
            refine rget (C := RX3) (T := TX3) (N := 25) (ref := RX3) F in_X3_fills_X3 hH 0 rfl rfl 13 (by decide) (by decide +kernel) (fun _ h9 => h9) (v := .ref (q 13)) rfl dX3_fills_46 ?_
            refine lv_iload hx hb dX3_fills_49 (lv_at hl 0 rfl) ?_
            refine riald F hH 11 (n := 10) (f := a 13) rfl k rfl (by omega) (by decide) dX3_fills_51 ?_
            refine lv_icmp_gt (tgt := 77) hx hb dX3_fills_52 (by decide) (fun c_52 => ?_) (fun c_52 => ?_)
            · refine lv_iconst (v := 0) hx hb dX3_fills_77 (by decide) ?_
              refine lv_istore_n (lv' := [(3, .int 0), (4, .int (nI k)), (0, .ref (q 0)), (1, .int (nI i)), (2, .int x)]) hx hb dX3_fills_78 rfl hl (by decide) rfl (fun ls hl => ?_)
              refine lv_iinc (v := (nI (k + 1))) (lv' := [(4, .int (nI (k + 1))), (3, .int 0), (0, .ref (q 0)), (1, .int (nI i)), (2, .int x)]) hx hb dX3_fills_79 hl (k := 1) rfl (nI_1 k) (by decide) rfl (fun ls hl => ?_)
              refine lv_goto (tgt := 5) hx hb dX3_fills_82 (by decide) ?_
              exact ih (k + 1) (by omega) _ _ _ hH (lv_sub hl [0, 1, 2, 3, 4] (by rw [fillsN_0 c_15]; unfold fillC; rw [if_neg c_30, if_neg c_41, if_pos c_52]; rfl))
            · refine lv_iconst (v := 2) hx hb dX3_fills_55 (by decide) ?_
              refine lv_aload_n hx hb dX3_fills_56 rfl (lv_at hl 2 rfl) ?_
              refine rget (C := RX3) (T := TX3) (N := 25) (ref := RX3) F in_X3_fills_X3 hH 0 rfl rfl 14 (by decide) (by decide +kernel) (fun _ h9 => h9) (v := .ref (q 14)) rfl dX3_fills_57 ?_
              refine lv_iload hx hb dX3_fills_60 (lv_at hl 0 rfl) ?_
              refine riald F hH 12 (n := 10) (f := a 14) rfl k rfl (by omega) (by decide) dX3_fills_62 ?_
              refine lv_imul hx hb dX3_fills_63 ?_
              refine lv_aload_n hx hb dX3_fills_64 rfl (lv_at hl 2 rfl) ?_
              refine lv_iload_n hx hb dX3_fills_65 rfl (lv_at hl 3 rfl) ?_
              refine lv_iload_n hx hb dX3_fills_66 rfl (lv_at hl 4 rfl) ?_
              refine callVI0 (rest := [.int (2 * (a 14 k))]) F (c_X3_cutOf l G q f a i (by omega) cn e3 hcn x) gX3_fills_X3_cutOf rfl hdX3_cutOf ⟨Nat.le_of_ble_eq_true rfl, Nat.le_of_ble_eq_true rfl⟩ hH ⟨0, 3, _, _, rfl, rfl, rfl⟩ rfl hl.1 (Nat.le_of_ble_eq_true rfl) dX3_fills_67 ⟨Nat.le_of_ble_eq_true rfl, Nat.le_of_ble_eq_true rfl⟩ rfl (fun u H locs hH => ?_)
              have hH : HH G A s (mW G q f a) H locs := hH
              refine lv_icmp_lt (tgt := 77) hx hb dX3_fills_70 (by decide) (fun c_70 => ?_) (fun c_70 => ?_)
              · refine lv_iconst (v := 0) hx hb dX3_fills_77 (by decide) ?_
                refine lv_istore_n (lv' := [(3, .int 0), (4, .int (nI k)), (0, .ref (q 0)), (1, .int (nI i)), (2, .int x)]) hx hb dX3_fills_78 rfl hl (by decide) rfl (fun ls hl => ?_)
                refine lv_iinc (v := (nI (k + 1))) (lv' := [(4, .int (nI (k + 1))), (3, .int 0), (0, .ref (q 0)), (1, .int (nI i)), (2, .int x)]) hx hb dX3_fills_79 hl (k := 1) rfl (nI_1 k) (by decide) rfl (fun ls hl => ?_)
                refine lv_goto (tgt := 5) hx hb dX3_fills_82 (by decide) ?_
                exact ih (k + 1) (by omega) _ _ _ hH (lv_sub hl [0, 1, 2, 3, 4] (by rw [fillsN_0 c_15]; unfold fillC; rw [if_neg c_30, if_neg c_41, if_neg c_52, if_pos c_70]; rfl))
              · refine lv_iconst (v := 1) hx hb dX3_fills_73 (by decide) ?_
                refine lv_goto (tgt := 78) hx hb dX3_fills_74 (by decide) ?_
                refine lv_istore_n (lv' := [(3, .int 1), (4, .int (nI k)), (0, .ref (q 0)), (1, .int (nI i)), (2, .int x)]) hx hb dX3_fills_78 rfl hl (by decide) rfl (fun ls hl => ?_)
                refine lv_iinc (v := (nI (k + 1))) (lv' := [(4, .int (nI (k + 1))), (3, .int 1), (0, .ref (q 0)), (1, .int (nI i)), (2, .int x)]) hx hb dX3_fills_79 hl (k := 1) rfl (nI_1 k) (by decide) rfl (fun ls hl => ?_)
                refine lv_goto (tgt := 5) hx hb dX3_fills_82 (by decide) ?_
                exact ih (k + 1) (by omega) _ _ _ hH (lv_sub hl [0, 1, 2, 3, 4] (by rw [fillsN_0 c_15]; unfold fillC; rw [if_neg c_30, if_neg c_41, if_neg c_52, if_neg c_70]; rfl))
  exact loop nc 0 (by omega) _ _ _ hH (lv_sub hl [0, 1, 2, 3, 4] (rfl))

set_option maxHeartbeats 4000000 in
set_option maxRecDepth 100000 in
theorem c_X3_isFilled_1 (l : Launch) (G : Gx) (q : Nat → Nat) (f : Nat → Int32) (a : Nat → Nat → Int32) (n : Nat) (e0 : f 0 = nI n) (hn : n ≤ 8) (i : Nat) (hi : i < n) (cn : Nat) (e3 : a 3 i = nI cn) (hcn : cn ≤ 30) (nc : Nat) (e10 : f 10 = nI nc) (hnc : nc ≤ 10) (j : Nat) (hj : j ≤ 200) : MI l yX3_isFilled wsX3_isFilled ({ frames := 2, cells := 0, slots := 0, locals := 48 } : Room) [.ref (q 0), .int (nI i), .int (nI j)] G (mW G q f a) (fun u => mW G q (va_up f 24 0) a) (fillsN a i (nI j) (cutM a i (nI j) cn) nc) := by
  refine ofMI (cc := cX3_isFilled) (maxL := 3) (ret := (some .boolean)) (by decide) rfl (Nat.le_of_ble_eq_true rfl) (fun p e s m below meth c A ls F hr hnm hH hl => ?_)
  have F : Fx G p s m _ meth c cX3_isFilled 3 wsX3_isFilled RX3 A := F
  have hx := F.1.1
  have hb := F.1.2.1
  have hl : lv_has ls 3 [(0, .ref (q 0)), (1, .int (nI i)), (2, .int (nI j))] := hl
  refine lv_aload_n hx hb dX3_isFilled_0 rfl (lv_at hl 0 rfl) ?_
  refine lv_aload_n hx hb dX3_isFilled_1 rfl (lv_at hl 0 rfl) ?_
  refine lv_iload_n hx hb dX3_isFilled_2 rfl (lv_at hl 1 rfl) ?_
  refine callVI0 (rest := [.ref (q 0)]) F (c_X3_isWorker_1 l G q f a n e0 hn i hi) gX3_isFilled_X3_isWorker rfl hdX3_isWorker ⟨Nat.le_of_ble_eq_true rfl, Nat.le_of_ble_eq_true rfl⟩ hH ⟨0, 3, _, _, rfl, rfl, rfl⟩ rfl hl.1 (Nat.le_of_ble_eq_true rfl) dX3_isFilled_3 ⟨Nat.le_of_ble_eq_true rfl, Nat.le_of_ble_eq_true rfl⟩ rfl (fun u H locs hH => ?_)
  have hH : HH G A s (mW G q f a) H locs := hH
  refine callVI0 (rest := []) F (c_X3_asks_1 l G q f a) gX3_isFilled_X3_asks rfl hdX3_asks ⟨Nat.le_of_ble_eq_true rfl, Nat.le_of_ble_eq_true rfl⟩ hH ⟨0, 3, _, _, rfl, rfl, rfl⟩ rfl hl.1 (Nat.le_of_ble_eq_true rfl) dX3_isFilled_6 ⟨Nat.le_of_ble_eq_true rfl, Nat.le_of_ble_eq_true rfl⟩ rfl (fun u H locs hH => ?_)
  have hH : HH G A s (mW G q (va_up f 24 0) a) H locs := hH
  refine lv_if_ne (tgt := 14) hx hb dX3_isFilled_9 (by decide) (fun c_9 => ?_) (fun c_9 => absurd c_9 (by decide))
  refine lv_iload_n hx hb dX3_isFilled_14 rfl (lv_at hl 2 rfl) ?_
  refine lv_iconst (v := 0) hx hb dX3_isFilled_15 (by decide) ?_
  refine lv_sipush (v := 200) hx hb dX3_isFilled_16 (by decide) ?_
  refine callSI0 (rest := []) F (c_X3_in_1 l G _ (nI j) 0 200 (nI_pos' (by omega)) (nI_le (a := j) (b := 200) hj (by decide))) gX3_isFilled_X3_in rfl hdX3_in ⟨Nat.le_of_ble_eq_true rfl, Nat.le_of_ble_eq_true rfl⟩ hH rfl hl.1 (Nat.le_of_ble_eq_true rfl) dX3_isFilled_19 ⟨Nat.le_of_ble_eq_true rfl, Nat.le_of_ble_eq_true rfl⟩ rfl (fun u H locs hH => ?_)
  have hH : HH G A s (mW G q (va_up f 24 0) a) H locs := hH
  refine lv_if_ne (tgt := 33) hx hb dX3_isFilled_22 (by decide) (fun c_22 => ?_) (fun c_22 => absurd c_22 (by decide))
  refine lv_aload_n hx hb dX3_isFilled_33 rfl (lv_at hl 0 rfl) ?_
  refine lv_iload_n hx hb dX3_isFilled_34 rfl (lv_at hl 1 rfl) ?_
  refine lv_iload_n hx hb dX3_isFilled_35 rfl (lv_at hl 2 rfl) ?_
  refine callVI0 (rest := []) F (c_X3_fills l G q (va_up f 24 0) a i (by omega) cn e3 hcn nc e10 hnc (nI j)) gX3_isFilled_X3_fills rfl hdX3_fills ⟨Nat.le_of_ble_eq_true rfl, Nat.le_of_ble_eq_true rfl⟩ hH ⟨0, 3, _, _, rfl, rfl, rfl⟩ rfl hl.1 (Nat.le_of_ble_eq_true rfl) dX3_isFilled_36 ⟨Nat.le_of_ble_eq_true rfl, Nat.le_of_ble_eq_true rfl⟩ rfl (fun u H locs hH => ?_)
  have hH : HH G A s (mW G q (va_up f 24 0) a) H locs := hH
  exact retI F hr (nar01 (fillsN_01 _)) (fun _ => 0) hH rfl (Nat.le_of_ble_eq_true rfl) (Nat.le_of_ble_eq_true rfl) dX3_isFilled_39

set_option maxHeartbeats 4000000 in
set_option maxRecDepth 100000 in
theorem c_X3_isFilled_2 (l : Launch) (G : Gx) (q : Nat → Nat) (f : Nat → Int32) (a : Nat → Nat → Int32) (n : Nat) (e0 : f 0 = nI n) (hn : n ≤ 8) (i : Nat) (hi : i < n) (w : Int32) (h : w < 0 ∨ 200 < w) : MI l yX3_isFilled wsX3_isFilled ({ frames := 1, cells := 0, slots := 0, locals := 22 } : Room) [.ref (q 0), .int (nI i), .int w] G (mW G q f a) (fun u => mW G q (va_up f 24 2) a) 0 := by
  refine ofMI (cc := cX3_isFilled) (maxL := 3) (ret := (some .boolean)) (by decide) rfl (Nat.le_of_ble_eq_true rfl) (fun p e s m below meth c A ls F hr hnm hH hl => ?_)
  have F : Fx G p s m _ meth c cX3_isFilled 3 wsX3_isFilled RX3 A := F
  have hx := F.1.1
  have hb := F.1.2.1
  have hl : lv_has ls 3 [(0, .ref (q 0)), (1, .int (nI i)), (2, .int w)] := hl
  refine lv_aload_n hx hb dX3_isFilled_0 rfl (lv_at hl 0 rfl) ?_
  refine lv_aload_n hx hb dX3_isFilled_1 rfl (lv_at hl 0 rfl) ?_
  refine lv_iload_n hx hb dX3_isFilled_2 rfl (lv_at hl 1 rfl) ?_
  refine callVI0 (rest := [.ref (q 0)]) F (c_X3_isWorker_1 l G q f a n e0 hn i hi) gX3_isFilled_X3_isWorker rfl hdX3_isWorker ⟨Nat.le_of_ble_eq_true rfl, Nat.le_of_ble_eq_true rfl⟩ hH ⟨0, 3, _, _, rfl, rfl, rfl⟩ rfl hl.1 (Nat.le_of_ble_eq_true rfl) dX3_isFilled_3 ⟨Nat.le_of_ble_eq_true rfl, Nat.le_of_ble_eq_true rfl⟩ rfl (fun u H locs hH => ?_)
  have hH : HH G A s (mW G q f a) H locs := hH
  refine callVI0 (rest := []) F (c_X3_asks_1 l G q f a) gX3_isFilled_X3_asks rfl hdX3_asks ⟨Nat.le_of_ble_eq_true rfl, Nat.le_of_ble_eq_true rfl⟩ hH ⟨0, 3, _, _, rfl, rfl, rfl⟩ rfl hl.1 (Nat.le_of_ble_eq_true rfl) dX3_isFilled_6 ⟨Nat.le_of_ble_eq_true rfl, Nat.le_of_ble_eq_true rfl⟩ rfl (fun u H locs hH => ?_)
  have hH : HH G A s (mW G q (va_up f 24 0) a) H locs := hH
  refine lv_if_ne (tgt := 14) hx hb dX3_isFilled_9 (by decide) (fun c_9 => ?_) (fun c_9 => absurd c_9 (by decide))
  refine lv_iload_n hx hb dX3_isFilled_14 rfl (lv_at hl 2 rfl) ?_
  refine lv_iconst (v := 0) hx hb dX3_isFilled_15 (by decide) ?_
  refine lv_sipush (v := 200) hx hb dX3_isFilled_16 (by decide) ?_
  refine callSI0 (rest := []) F (c_X3_in_0 l G _ w 0 200 h) gX3_isFilled_X3_in rfl hdX3_in ⟨Nat.le_of_ble_eq_true rfl, Nat.le_of_ble_eq_true rfl⟩ hH rfl hl.1 (Nat.le_of_ble_eq_true rfl) dX3_isFilled_19 ⟨Nat.le_of_ble_eq_true rfl, Nat.le_of_ble_eq_true rfl⟩ rfl (fun u H locs hH => ?_)
  have hH : HH G A s (mW G q (va_up f 24 0) a) H locs := hH
  refine lv_if_ne (tgt := 33) hx hb dX3_isFilled_22 (by decide) (fun c_22 => absurd rfl c_22) (fun c_22 => ?_)
  refine lv_aload_n hx hb dX3_isFilled_25 rfl (lv_at hl 0 rfl) ?_
  refine lv_iconst (v := 2) hx hb dX3_isFilled_26 (by decide) ?_
  refine callVI0 (rest := []) F (c_X3_fails l G q (va_up f 24 0) a 2) gX3_isFilled_X3_fails rfl hdX3_fails ⟨Nat.le_of_ble_eq_true rfl, Nat.le_of_ble_eq_true rfl⟩ hH ⟨0, 3, _, _, rfl, rfl, rfl⟩ rfl hl.1 (Nat.le_of_ble_eq_true rfl) dX3_isFilled_27 ⟨Nat.le_of_ble_eq_true rfl, Nat.le_of_ble_eq_true rfl⟩ rfl (fun u H locs hH => ?_)
  have hH : HH G A s (mW G q (va_up f 24 2) a) H locs := hH
  refine lv_pop hx hb dX3_isFilled_30 rfl ?_
  refine lv_iconst (v := 0) hx hb dX3_isFilled_31 (by decide) ?_
  exact retI F hr rfl (fun _ => 0) hH rfl (Nat.le_of_ble_eq_true rfl) (Nat.le_of_ble_eq_true rfl) dX3_isFilled_32

set_option maxHeartbeats 4000000 in
set_option maxRecDepth 100000 in
theorem c_X3_isFilled_0 (l : Launch) (G : Gx) (q : Nat → Nat) (f : Nat → Int32) (a : Nat → Nat → Int32) (n : Nat) (e0 : f 0 = nI n) (hn : n ≤ 8) (v : Int32) (h : v < 0 ∨ nI n ≤ v) (w : Int32) : MI l yX3_isFilled wsX3_isFilled ({ frames := 1, cells := 0, slots := 0, locals := 21 } : Room) [.ref (q 0), .int v, .int w] G (mW G q f a) (fun u => mW G q (va_up f 24 1) a) 0 := by
  refine ofMI (cc := cX3_isFilled) (maxL := 3) (ret := (some .boolean)) (by decide) rfl (Nat.le_of_ble_eq_true rfl) (fun p e s m below meth c A ls F hr hnm hH hl => ?_)
  have F : Fx G p s m _ meth c cX3_isFilled 3 wsX3_isFilled RX3 A := F
  have hx := F.1.1
  have hb := F.1.2.1
  have hl : lv_has ls 3 [(0, .ref (q 0)), (1, .int v), (2, .int w)] := hl
  refine lv_aload_n hx hb dX3_isFilled_0 rfl (lv_at hl 0 rfl) ?_
  refine lv_aload_n hx hb dX3_isFilled_1 rfl (lv_at hl 0 rfl) ?_
  refine lv_iload_n hx hb dX3_isFilled_2 rfl (lv_at hl 1 rfl) ?_
  refine callVI0 (rest := [.ref (q 0)]) F (c_X3_isWorker_0 l G q f a n e0 hn v h) gX3_isFilled_X3_isWorker rfl hdX3_isWorker ⟨Nat.le_of_ble_eq_true rfl, Nat.le_of_ble_eq_true rfl⟩ hH ⟨0, 3, _, _, rfl, rfl, rfl⟩ rfl hl.1 (Nat.le_of_ble_eq_true rfl) dX3_isFilled_3 ⟨Nat.le_of_ble_eq_true rfl, Nat.le_of_ble_eq_true rfl⟩ rfl (fun u H locs hH => ?_)
  have hH : HH G A s (mW G q f a) H locs := hH
  refine callVI0 (rest := []) F (c_X3_asks_0 l G q f a) gX3_isFilled_X3_asks rfl hdX3_asks ⟨Nat.le_of_ble_eq_true rfl, Nat.le_of_ble_eq_true rfl⟩ hH ⟨0, 3, _, _, rfl, rfl, rfl⟩ rfl hl.1 (Nat.le_of_ble_eq_true rfl) dX3_isFilled_6 ⟨Nat.le_of_ble_eq_true rfl, Nat.le_of_ble_eq_true rfl⟩ rfl (fun u H locs hH => ?_)
  have hH : HH G A s (mW G q (va_up f 24 1) a) H locs := hH
  refine lv_if_ne (tgt := 14) hx hb dX3_isFilled_9 (by decide) (fun c_9 => absurd rfl c_9) (fun c_9 => ?_)
  refine lv_iconst (v := 0) hx hb dX3_isFilled_12 (by decide) ?_
  exact retI F hr rfl (fun _ => 0) hH rfl (Nat.le_of_ble_eq_true rfl) (Nat.le_of_ble_eq_true rfl) dX3_isFilled_13

set_option maxHeartbeats 4000000 in
set_option maxRecDepth 100000 in
theorem c_X3_meets (l : Launch) (G : Gx) (q : Nat → Nat) (f : Nat → Int32) (a : Nat → Nat → Int32) (i : Nat) (hi : i < 8) (nc : Nat) (e10 : f 10 = nI nc) (hnc : nc ≤ 10) (j : Nat) (hj : j < nc) : MI l yX3_meets wsX3_meets ({ frames := 0, cells := 0, slots := 0, locals := 0 } : Room) [.ref (q 0), .int (nI i), .int (nI j)] G (mW G q f a) (fun u => mW G q f a) (meetsN a i j nc) := by
  refine ofMI (cc := cX3_meets) (maxL := 5) (ret := (some .boolean)) (by decide) rfl (Nat.le_of_ble_eq_true rfl) (fun p e s m below meth c A ls F hr hnm hH hl => ?_)
  have F : Fx G p s m _ meth c cX3_meets 5 wsX3_meets RX3 A := F
  have hx := F.1.1
  have hb := F.1.2.1
  have hl : lv_has ls 5 [(0, .ref (q 0)), (1, .int (nI i)), (2, .int (nI j))] := hl
  refine lv_iconst (v := 0) hx hb dX3_meets_0 (by decide) ?_
  refine lv_istore_n (lv' := [(3, .int 0), (0, .ref (q 0)), (1, .int (nI i)), (2, .int (nI j))]) hx hb dX3_meets_1 rfl hl (by decide) rfl (fun ls hl => ?_)
  refine lv_iconst (v := 0) hx hb dX3_meets_2 (by decide) ?_
  refine lv_istore (lv' := [(4, .int 0), (3, .int 0), (0, .ref (q 0)), (1, .int (nI i)), (2, .int (nI j))]) hx hb dX3_meets_3 hl (by decide) rfl (fun ls hl => ?_)
  have loop : ∀ (n9 : Nat) (k : Nat) (hc9 : k + n9 = nc)  (H : Heap) (locs : List Loc) (ls : Array Slot), HH G A s (mW G q f a) H locs → lv_has ls 5 [(4, .int (nI k)), (3, .int (meetsN a i j k)), (0, .ref (q 0)), (1, .int (nI i)), (2, .int (nI j))] → W p l e ({ frames := 0, cells := 0, slots := 0, locals := 0 } : Room) s m [.ref (q 0), .int (nI i), .int (nI j)].toArray below meth c H locs 0 0 (EnI G A below s [.ref (q 0), .int (nI i), .int (nI j)].toArray ({ frames := 0, cells := 0, slots := 0, locals := 0 } : Room) (fun u => mW G q f a) (meetsN a i j nc)) (F0 m 5 ls []) := by
    intro n9
    induction n9 with
    | zero =>
      intro k hc9  H locs ls hH hl
      refine lv_iload hx hb dX3_meets_5 (lv_at hl 0 rfl) ?_
      refine lv_aload_n hx hb dX3_meets_7 rfl (lv_at hl 2 rfl) ?_
      refine rget (C := RX3) (T := TX3) (N := 25) (ref := RX3) F in_X3_meets_X3 hH 0 rfl rfl 10 (by decide) (by decide +kernel) (fun _ h9 => h9) (v := .int (f 10)) rfl dX3_meets_8 ?_
      refine lv_icmp_ge (tgt := 77) hx hb dX3_meets_11 (by decide) (fun c_11 => ?_) (fun c_11 => absurd (by rw [e10]; exact nI_le (by omega) (by omega)) c_11)
      refine lv_iload_n hx hb dX3_meets_77 rfl (lv_at hl 1 rfl) ?_
      exact retI F hr (nar01 (meetsN_01 _)) (fun _ => 0) hH (by rw [show k = nc by omega]) (Nat.le_of_ble_eq_true rfl) (Nat.le_of_ble_eq_true rfl) dX3_meets_78
    | succ n9 ih =>
      intro k hc9  H locs ls hH hl
      refine lv_iload hx hb dX3_meets_5 (lv_at hl 0 rfl) ?_
      refine lv_aload_n hx hb dX3_meets_7 rfl (lv_at hl 2 rfl) ?_
      refine rget (C := RX3) (T := TX3) (N := 25) (ref := RX3) F in_X3_meets_X3 hH 0 rfl rfl 10 (by decide) (by decide +kernel) (fun _ h9 => h9) (v := .int (f 10)) rfl dX3_meets_8 ?_
      refine lv_icmp_ge (tgt := 77) hx hb dX3_meets_11 (by decide) (fun c_11 => absurd c_11 (by rw [e10]; exact nI_ge (by omega) (by omega))) (fun c_11 => ?_)
      refine lv_iload_n hx hb dX3_meets_14 rfl (lv_at hl 1 rfl) ?_
      refine lv_if_ne (tgt := 65) hx hb dX3_meets_15 (by decide) (fun c_15 => ?_) (fun c_15 => ?_)
      · refine lv_iconst (v := 1) hx hb dX3_meets_65 (by decide) ?_
        refine lv_goto (tgt := 70) hx hb dX3_meets_66 (by decide) ?_
        refine lv_istore_n (lv' := [(3, .int 1), (4, .int (nI k)), (0, .ref (q 0)), (1, .int (nI i)), (2, .int (nI j))]) hx hb dX3_meets_70 rfl hl (by decide) rfl (fun ls hl => ?_)
        refine lv_iinc (v := (nI (k + 1))) (lv' := [(4, .int (nI (k + 1))), (3, .int 1), (0, .ref (q 0)), (1, .int (nI i)), (2, .int (nI j))]) hx hb dX3_meets_71 hl (k := 1) rfl (nI_1 k) (by decide) rfl (fun ls hl => ?_)
        refine lv_goto (tgt := 5) hx hb dX3_meets_74 (by decide) ?_
        exact ih (k + 1) (by omega) _ _ _ hH (lv_sub hl [0, 1, 2, 3, 4] (by rw [meetsN_1 c_15]; rfl))
      · refine lv_aload_n hx hb dX3_meets_18 rfl (lv_at hl 2 rfl) ?_
        refine rget (C := RX3) (T := TX3) (N := 25) (ref := RX3) F in_X3_meets_X3 hH 0 rfl rfl 15 (by decide) (by decide +kernel) (fun _ h9 => h9) (v := .ref (q 15)) rfl dX3_meets_19 ?_
        refine lv_bipush (v := 8) hx hb dX3_meets_22 (by decide) ?_
        refine lv_iload hx hb dX3_meets_24 (lv_at hl 0 rfl) ?_
        refine lv_imul hx hb dX3_meets_26 ?_
        refine lv_iload_n hx hb dX3_meets_27 rfl (lv_at hl 3 rfl) ?_
        refine lv_iadd hx hb dX3_meets_28 ?_
        refine rzald F hH 13 (n := 80) (f := a 15) rfl (8 * k + i) (ix8 k i) (by omega) (by decide) dX3_meets_29 ?_
        refine lv_if_eq (tgt := 69) hx hb dX3_meets_30 (by decide) (fun c_30 => ?_) (fun c_30 => ?_)
        · refine lv_iconst (v := 0) hx hb dX3_meets_69 (by decide) ?_
          refine lv_istore_n (lv' := [(3, .int 0), (4, .int (nI k)), (0, .ref (q 0)), (1, .int (nI i)), (2, .int (nI j))]) hx hb dX3_meets_70 rfl hl (by decide) rfl (fun ls hl => ?_)
          refine lv_iinc (v := (nI (k + 1))) (lv' := [(4, .int (nI (k + 1))), (3, .int 0), (0, .ref (q 0)), (1, .int (nI i)), (2, .int (nI j))]) hx hb dX3_meets_71 hl (k := 1) rfl (nI_1 k) (by decide) rfl (fun ls hl => ?_)
          refine lv_goto (tgt := 5) hx hb dX3_meets_74 (by decide) ?_
          exact ih (k + 1) (by omega) _ _ _ hH (lv_sub hl [0, 1, 2, 3, 4] (by rw [meetsN_0 c_15]; unfold meetC; rw [if_pos c_30]; rfl))
        · refine lv_aload_n hx hb dX3_meets_33 rfl (lv_at hl 2 rfl) ?_
          refine rget (C := RX3) (T := TX3) (N := 25) (ref := RX3) F in_X3_meets_X3 hH 0 rfl rfl 12 (by decide) (by decide +kernel) (fun _ h9 => h9) (v := .ref (q 12)) rfl dX3_meets_34 ?_
          refine lv_iload hx hb dX3_meets_37 (lv_at hl 0 rfl) ?_
          refine riald F hH 10 (n := 10) (f := a 12) rfl k rfl (by omega) (by decide) dX3_meets_39 ?_
          refine lv_aload_n hx hb dX3_meets_40 rfl (lv_at hl 2 rfl) ?_
          refine rget (C := RX3) (T := TX3) (N := 25) (ref := RX3) F in_X3_meets_X3 hH 0 rfl rfl 13 (by decide) (by decide +kernel) (fun _ h9 => h9) (v := .ref (q 13)) rfl dX3_meets_41 ?_
          refine lv_iload_n hx hb dX3_meets_44 rfl (lv_at hl 4 rfl) ?_
          refine riald F hH 11 (n := 10) (f := a 13) rfl j rfl (by omega) (by decide) dX3_meets_45 ?_
          refine lv_icmp_gt (tgt := 69) hx hb dX3_meets_46 (by decide) (fun c_46 => ?_) (fun c_46 => ?_)
          · refine lv_iconst (v := 0) hx hb dX3_meets_69 (by decide) ?_
            refine lv_istore_n (lv' := [(3, .int 0), (4, .int (nI k)), (0, .ref (q 0)), (1, .int (nI i)), (2, .int (nI j))]) hx hb dX3_meets_70 rfl hl (by decide) rfl (fun ls hl => ?_)
            refine lv_iinc (v := (nI (k + 1))) (lv' := [(4, .int (nI (k + 1))), (3, .int 0), (0, .ref (q 0)), (1, .int (nI i)), (2, .int (nI j))]) hx hb dX3_meets_71 hl (k := 1) rfl (nI_1 k) (by decide) rfl (fun ls hl => ?_)
            refine lv_goto (tgt := 5) hx hb dX3_meets_74 (by decide) ?_
            exact ih (k + 1) (by omega) _ _ _ hH (lv_sub hl [0, 1, 2, 3, 4] (by rw [meetsN_0 c_15]; unfold meetC; rw [if_neg c_30, if_pos c_46]; rfl))
          · refine lv_aload_n hx hb dX3_meets_49 rfl (lv_at hl 2 rfl) ?_
            refine rget (C := RX3) (T := TX3) (N := 25) (ref := RX3) F in_X3_meets_X3 hH 0 rfl rfl 12 (by decide) (by decide +kernel) (fun _ h9 => h9) (v := .ref (q 12)) rfl dX3_meets_50 ?_
            refine lv_iload_n hx hb dX3_meets_53 rfl (lv_at hl 4 rfl) ?_
            refine riald F hH 10 (n := 10) (f := a 12) rfl j rfl (by omega) (by decide) dX3_meets_54 ?_
            refine lv_aload_n hx hb dX3_meets_55 rfl (lv_at hl 2 rfl) ?_
            refine rget (C := RX3) (T := TX3) (N := 25) (ref := RX3) F in_X3_meets_X3 hH 0 rfl rfl 13 (by decide) (by decide +kernel) (fun _ h9 => h9) (v := .ref (q 13)) rfl dX3_meets_56 ?_
            refine lv_iload hx hb dX3_meets_59 (lv_at hl 0 rfl) ?_
            refine riald F hH 11 (n := 10) (f := a 13) rfl k rfl (by omega) (by decide) dX3_meets_61 ?_
            refine lv_icmp_gt (tgt := 69) hx hb dX3_meets_62 (by decide) (fun c_62 => ?_) (fun c_62 => ?_)
            · refine lv_iconst (v := 0) hx hb dX3_meets_69 (by decide) ?_
              refine lv_istore_n (lv' := [(3, .int 0), (4, .int (nI k)), (0, .ref (q 0)), (1, .int (nI i)), (2, .int (nI j))]) hx hb dX3_meets_70 rfl hl (by decide) rfl (fun ls hl => ?_)
              refine lv_iinc (v := (nI (k + 1))) (lv' := [(4, .int (nI (k + 1))), (3, .int 0), (0, .ref (q 0)), (1, .int (nI i)), (2, .int (nI j))]) hx hb dX3_meets_71 hl (k := 1) rfl (nI_1 k) (by decide) rfl (fun ls hl => ?_)
              refine lv_goto (tgt := 5) hx hb dX3_meets_74 (by decide) ?_
              exact ih (k + 1) (by omega) _ _ _ hH (lv_sub hl [0, 1, 2, 3, 4] (by rw [meetsN_0 c_15]; unfold meetC; rw [if_neg c_30, if_neg c_46, if_pos c_62]; rfl))
            · refine lv_iconst (v := 1) hx hb dX3_meets_65 (by decide) ?_
              refine lv_goto (tgt := 70) hx hb dX3_meets_66 (by decide) ?_
              refine lv_istore_n (lv' := [(3, .int 1), (4, .int (nI k)), (0, .ref (q 0)), (1, .int (nI i)), (2, .int (nI j))]) hx hb dX3_meets_70 rfl hl (by decide) rfl (fun ls hl => ?_)
              refine lv_iinc (v := (nI (k + 1))) (lv' := [(4, .int (nI (k + 1))), (3, .int 1), (0, .ref (q 0)), (1, .int (nI i)), (2, .int (nI j))]) hx hb dX3_meets_71 hl (k := 1) rfl (nI_1 k) (by decide) rfl (fun ls hl => ?_)
              refine lv_goto (tgt := 5) hx hb dX3_meets_74 (by decide) ?_
              exact ih (k + 1) (by omega) _ _ _ hH (lv_sub hl [0, 1, 2, 3, 4] (by rw [meetsN_0 c_15]; unfold meetC; rw [if_neg c_30, if_neg c_46, if_neg c_62]; rfl))
  exact loop nc 0 (by omega) _ _ _ hH (lv_sub hl [0, 1, 2, 3, 4] (rfl))

set_option maxHeartbeats 4000000 in
set_option maxRecDepth 100000 in
theorem c_X3_percent (l : Launch) (G : Gx) (q : Nat → Nat) (f : Nat → Int32) (a : Nat → Nat → Int32) (i : Nat) (hi : i < 8) (cn : Nat) (e3 : a 3 i = nI cn) (hcn : cn ≤ 30) (nc : Nat) (e10 : f 10 = nI nc) (hnc : nc ≤ 10) (t : Nat) (e16 : f 16 = nI t) : MI l yX3_percent wsX3_percent ({ frames := 2, cells := 0, slots := 0, locals := 48 } : Room) [.ref (q 0), .int (nI i)] G (mW G q f a) (fun u => mW G q f a) (pctM (a 2 i) (a 7 i) (fillsN a i (f 16) (cutM a i (f 16) cn) nc)) := by
  refine ofMI (cc := cX3_percent) (maxL := 5) (ret := (some .int)) (by decide) rfl (Nat.le_of_ble_eq_true rfl) (fun p e s m below meth c A ls F hr hnm hH hl => ?_)
  have F : Fx G p s m _ meth c cX3_percent 5 wsX3_percent RX3 A := F
  have hx := F.1.1
  have hb := F.1.2.1
  have hl : lv_has ls 5 [(0, .ref (q 0)), (1, .int (nI i))] := hl
  refine lv_aload_n hx hb dX3_percent_0 rfl (lv_at hl 0 rfl) ?_
  refine lv_iload_n hx hb dX3_percent_1 rfl (lv_at hl 1 rfl) ?_
  refine lv_aload_n hx hb dX3_percent_2 rfl (lv_at hl 0 rfl) ?_
  refine rget (C := RX3) (T := TX3) (N := 25) (ref := RX3) F in_X3_percent_X3 hH 0 rfl rfl 16 (by decide) (by decide +kernel) (fun _ h9 => h9) (v := .int (f 16)) rfl dX3_percent_3 ?_
  refine callVI0 (rest := []) F (c_X3_fills l G q f a i (by omega) cn e3 hcn nc e10 hnc (f 16)) gX3_percent_X3_fills rfl hdX3_fills ⟨Nat.le_of_ble_eq_true rfl, Nat.le_of_ble_eq_true rfl⟩ hH ⟨0, 3, _, _, rfl, rfl, rfl⟩ rfl hl.1 (Nat.le_of_ble_eq_true rfl) dX3_percent_6 ⟨Nat.le_of_ble_eq_true rfl, Nat.le_of_ble_eq_true rfl⟩ rfl (fun u H locs hH => ?_)
  have hH : HH G A s (mW G q f a) H locs := hH
  refine lv_istore_n (lv' := [(2, .int (fillsN a i (f 16) (cutM a i (f 16) cn) nc)), (0, .ref (q 0)), (1, .int (nI i))]) hx hb dX3_percent_9 rfl hl (by decide) rfl (fun ls hl => ?_)
  refine lv_aload_n hx hb dX3_percent_10 rfl (lv_at hl 1 rfl) ?_
  refine rget (C := RX3) (T := TX3) (N := 25) (ref := RX3) F in_X3_percent_X3 hH 0 rfl rfl 7 (by decide) (by decide +kernel) (fun _ h9 => h9) (v := .ref (q 7)) rfl dX3_percent_11 ?_
  refine lv_iload_n hx hb dX3_percent_14 rfl (lv_at hl 2 rfl) ?_
  refine riald F hH 7 (n := 8) (f := a 7) rfl i rfl (by omega) (by decide) dX3_percent_15 ?_
  refine lv_istore_n (lv' := [(3, .int (a 7 i)), (2, .int (fillsN a i (f 16) (cutM a i (f 16) cn) nc)), (0, .ref (q 0)), (1, .int (nI i))]) hx hb dX3_percent_16 rfl hl (by decide) rfl (fun ls hl => ?_)
  refine lv_iload_n hx hb dX3_percent_17 rfl (lv_at hl 0 rfl) ?_
  refine lv_bipush (v := 24) hx hb dX3_percent_18 (by decide) ?_
  refine lv_icmp_lt (tgt := 28) hx hb dX3_percent_20 (by decide) (fun c_20 => ?_) (fun c_20 => ?_)
  · refine lv_iload_n hx hb dX3_percent_28 rfl (lv_at hl 0 rfl) ?_
    refine lv_bipush (v := 12) hx hb dX3_percent_29 (by decide) ?_
    refine lv_icmp_lt (tgt := 39) hx hb dX3_percent_31 (by decide) (fun c_31 => ?_) (fun c_31 => ?_)
    · refine lv_bipush (v := 60) hx hb dX3_percent_39 (by decide) ?_
      refine lv_istore (lv' := [(4, .int 60), (3, .int (a 7 i)), (2, .int (fillsN a i (f 16) (cutM a i (f 16) cn) nc)), (0, .ref (q 0)), (1, .int (nI i))]) hx hb dX3_percent_41 hl (by decide) rfl (fun ls hl => ?_)
      refine lv_iload hx hb dX3_percent_43 (lv_at hl 0 rfl) ?_
      refine lv_aload_n hx hb dX3_percent_45 rfl (lv_at hl 3 rfl) ?_
      refine rget (C := RX3) (T := TX3) (N := 25) (ref := RX3) F in_X3_percent_X3 hH 0 rfl rfl 2 (by decide) (by decide +kernel) (fun _ h9 => h9) (v := .ref (q 2)) rfl dX3_percent_46 ?_
      refine lv_iload_n hx hb dX3_percent_49 rfl (lv_at hl 4 rfl) ?_
      refine rzald F hH 2 (n := 8) (f := a 2) rfl i rfl (by omega) (by decide) dX3_percent_50 ?_
      refine lv_if_eq (tgt := 59) hx hb dX3_percent_51 (by decide) (fun c_51 => ?_) (fun c_51 => ?_)
      · refine lv_iconst (v := 0) hx hb dX3_percent_59 (by decide) ?_
        refine lv_iadd hx hb dX3_percent_60 ?_
        refine lv_istore (lv' := [(4, .int (60 + 0)), (3, .int (a 7 i)), (2, .int (fillsN a i (f 16) (cutM a i (f 16) cn) nc)), (0, .ref (q 0)), (1, .int (nI i))]) hx hb dX3_percent_61 hl (by decide) rfl (fun ls hl => ?_)
        refine lv_iload hx hb dX3_percent_63 (lv_at hl 0 rfl) ?_
        refine lv_iload_n hx hb dX3_percent_65 rfl (lv_at hl 2 rfl) ?_
        refine lv_if_eq (tgt := 73) hx hb dX3_percent_66 (by decide) (fun c_66 => ?_) (fun c_66 => ?_)
        · refine lv_iload_n hx hb dX3_percent_73 rfl (lv_at hl 1 rfl) ?_
          refine lv_bipush (v := 12) hx hb dX3_percent_74 (by decide) ?_
          refine lv_icmp_lt (tgt := 84) hx hb dX3_percent_76 (by decide) (fun c_76 => ?_) (fun c_76 => ?_)
          · refine lv_iconst (v := 0) hx hb dX3_percent_84 (by decide) ?_
            refine lv_iadd hx hb dX3_percent_85 ?_
            exact retI F hr rfl (fun _ => 0) hH (by unfold pctM stepP; rw [if_pos c_20, if_pos c_31, if_pos c_51, if_pos c_66, if_pos c_76]) (Nat.le_of_ble_eq_true rfl) (Nat.le_of_ble_eq_true rfl) dX3_percent_86
          · refine lv_bipush (v := (-10)) hx hb dX3_percent_79 (by decide) ?_
            refine lv_goto (tgt := 85) hx hb dX3_percent_81 (by decide) ?_
            refine lv_iadd hx hb dX3_percent_85 ?_
            exact retI F hr rfl (fun _ => 0) hH (by unfold pctM stepP; rw [if_pos c_20, if_pos c_31, if_pos c_51, if_pos c_66, if_neg c_76]) (Nat.le_of_ble_eq_true rfl) (Nat.le_of_ble_eq_true rfl) dX3_percent_86
        · refine lv_iconst (v := 5) hx hb dX3_percent_69 (by decide) ?_
          refine lv_goto (tgt := 85) hx hb dX3_percent_70 (by decide) ?_
          refine lv_iadd hx hb dX3_percent_85 ?_
          exact retI F hr rfl (fun _ => 0) hH (by unfold pctM stepP; rw [if_pos c_20, if_pos c_31, if_pos c_51, if_neg c_66]) (Nat.le_of_ble_eq_true rfl) (Nat.le_of_ble_eq_true rfl) dX3_percent_86
      · refine lv_bipush (v := 7) hx hb dX3_percent_54 (by decide) ?_
        refine lv_goto (tgt := 60) hx hb dX3_percent_56 (by decide) ?_
        refine lv_iadd hx hb dX3_percent_60 ?_
        refine lv_istore (lv' := [(4, .int (60 + 7)), (3, .int (a 7 i)), (2, .int (fillsN a i (f 16) (cutM a i (f 16) cn) nc)), (0, .ref (q 0)), (1, .int (nI i))]) hx hb dX3_percent_61 hl (by decide) rfl (fun ls hl => ?_)
        refine lv_iload hx hb dX3_percent_63 (lv_at hl 0 rfl) ?_
        refine lv_iload_n hx hb dX3_percent_65 rfl (lv_at hl 2 rfl) ?_
        refine lv_if_eq (tgt := 73) hx hb dX3_percent_66 (by decide) (fun c_66 => ?_) (fun c_66 => ?_)
        · refine lv_iload_n hx hb dX3_percent_73 rfl (lv_at hl 1 rfl) ?_
          refine lv_bipush (v := 12) hx hb dX3_percent_74 (by decide) ?_
          refine lv_icmp_lt (tgt := 84) hx hb dX3_percent_76 (by decide) (fun c_76 => ?_) (fun c_76 => ?_)
          · refine lv_iconst (v := 0) hx hb dX3_percent_84 (by decide) ?_
            refine lv_iadd hx hb dX3_percent_85 ?_
            exact retI F hr rfl (fun _ => 0) hH (by unfold pctM stepP; rw [if_pos c_20, if_pos c_31, if_neg c_51, if_pos c_66, if_pos c_76]) (Nat.le_of_ble_eq_true rfl) (Nat.le_of_ble_eq_true rfl) dX3_percent_86
          · refine lv_bipush (v := (-10)) hx hb dX3_percent_79 (by decide) ?_
            refine lv_goto (tgt := 85) hx hb dX3_percent_81 (by decide) ?_
            refine lv_iadd hx hb dX3_percent_85 ?_
            exact retI F hr rfl (fun _ => 0) hH (by unfold pctM stepP; rw [if_pos c_20, if_pos c_31, if_neg c_51, if_pos c_66, if_neg c_76]) (Nat.le_of_ble_eq_true rfl) (Nat.le_of_ble_eq_true rfl) dX3_percent_86
        · refine lv_iconst (v := 5) hx hb dX3_percent_69 (by decide) ?_
          refine lv_goto (tgt := 85) hx hb dX3_percent_70 (by decide) ?_
          refine lv_iadd hx hb dX3_percent_85 ?_
          exact retI F hr rfl (fun _ => 0) hH (by unfold pctM stepP; rw [if_pos c_20, if_pos c_31, if_neg c_51, if_neg c_66]) (Nat.le_of_ble_eq_true rfl) (Nat.le_of_ble_eq_true rfl) dX3_percent_86
    · refine lv_bipush (v := 70) hx hb dX3_percent_34 (by decide) ?_
      refine lv_goto (tgt := 41) hx hb dX3_percent_36 (by decide) ?_
      refine lv_istore (lv' := [(4, .int 70), (3, .int (a 7 i)), (2, .int (fillsN a i (f 16) (cutM a i (f 16) cn) nc)), (0, .ref (q 0)), (1, .int (nI i))]) hx hb dX3_percent_41 hl (by decide) rfl (fun ls hl => ?_)
      refine lv_iload hx hb dX3_percent_43 (lv_at hl 0 rfl) ?_
      refine lv_aload_n hx hb dX3_percent_45 rfl (lv_at hl 3 rfl) ?_
      refine rget (C := RX3) (T := TX3) (N := 25) (ref := RX3) F in_X3_percent_X3 hH 0 rfl rfl 2 (by decide) (by decide +kernel) (fun _ h9 => h9) (v := .ref (q 2)) rfl dX3_percent_46 ?_
      refine lv_iload_n hx hb dX3_percent_49 rfl (lv_at hl 4 rfl) ?_
      refine rzald F hH 2 (n := 8) (f := a 2) rfl i rfl (by omega) (by decide) dX3_percent_50 ?_
      refine lv_if_eq (tgt := 59) hx hb dX3_percent_51 (by decide) (fun c_51 => ?_) (fun c_51 => ?_)
      · refine lv_iconst (v := 0) hx hb dX3_percent_59 (by decide) ?_
        refine lv_iadd hx hb dX3_percent_60 ?_
        refine lv_istore (lv' := [(4, .int (70 + 0)), (3, .int (a 7 i)), (2, .int (fillsN a i (f 16) (cutM a i (f 16) cn) nc)), (0, .ref (q 0)), (1, .int (nI i))]) hx hb dX3_percent_61 hl (by decide) rfl (fun ls hl => ?_)
        refine lv_iload hx hb dX3_percent_63 (lv_at hl 0 rfl) ?_
        refine lv_iload_n hx hb dX3_percent_65 rfl (lv_at hl 2 rfl) ?_
        refine lv_if_eq (tgt := 73) hx hb dX3_percent_66 (by decide) (fun c_66 => ?_) (fun c_66 => ?_)
        · refine lv_iload_n hx hb dX3_percent_73 rfl (lv_at hl 1 rfl) ?_
          refine lv_bipush (v := 12) hx hb dX3_percent_74 (by decide) ?_
          refine lv_icmp_lt (tgt := 84) hx hb dX3_percent_76 (by decide) (fun c_76 => ?_) (fun c_76 => ?_)
          · refine lv_iconst (v := 0) hx hb dX3_percent_84 (by decide) ?_
            refine lv_iadd hx hb dX3_percent_85 ?_
            exact retI F hr rfl (fun _ => 0) hH (by unfold pctM stepP; rw [if_pos c_20, if_neg c_31, if_pos c_51, if_pos c_66, if_pos c_76]) (Nat.le_of_ble_eq_true rfl) (Nat.le_of_ble_eq_true rfl) dX3_percent_86
          · refine lv_bipush (v := (-10)) hx hb dX3_percent_79 (by decide) ?_
            refine lv_goto (tgt := 85) hx hb dX3_percent_81 (by decide) ?_
            refine lv_iadd hx hb dX3_percent_85 ?_
            exact retI F hr rfl (fun _ => 0) hH (by unfold pctM stepP; rw [if_pos c_20, if_neg c_31, if_pos c_51, if_pos c_66, if_neg c_76]) (Nat.le_of_ble_eq_true rfl) (Nat.le_of_ble_eq_true rfl) dX3_percent_86
        · refine lv_iconst (v := 5) hx hb dX3_percent_69 (by decide) ?_
          refine lv_goto (tgt := 85) hx hb dX3_percent_70 (by decide) ?_
          refine lv_iadd hx hb dX3_percent_85 ?_
          exact retI F hr rfl (fun _ => 0) hH (by unfold pctM stepP; rw [if_pos c_20, if_neg c_31, if_pos c_51, if_neg c_66]) (Nat.le_of_ble_eq_true rfl) (Nat.le_of_ble_eq_true rfl) dX3_percent_86
      · refine lv_bipush (v := 7) hx hb dX3_percent_54 (by decide) ?_
        refine lv_goto (tgt := 60) hx hb dX3_percent_56 (by decide) ?_
        refine lv_iadd hx hb dX3_percent_60 ?_
        refine lv_istore (lv' := [(4, .int (70 + 7)), (3, .int (a 7 i)), (2, .int (fillsN a i (f 16) (cutM a i (f 16) cn) nc)), (0, .ref (q 0)), (1, .int (nI i))]) hx hb dX3_percent_61 hl (by decide) rfl (fun ls hl => ?_)
        refine lv_iload hx hb dX3_percent_63 (lv_at hl 0 rfl) ?_
        refine lv_iload_n hx hb dX3_percent_65 rfl (lv_at hl 2 rfl) ?_
        refine lv_if_eq (tgt := 73) hx hb dX3_percent_66 (by decide) (fun c_66 => ?_) (fun c_66 => ?_)
        · refine lv_iload_n hx hb dX3_percent_73 rfl (lv_at hl 1 rfl) ?_
          refine lv_bipush (v := 12) hx hb dX3_percent_74 (by decide) ?_
          refine lv_icmp_lt (tgt := 84) hx hb dX3_percent_76 (by decide) (fun c_76 => ?_) (fun c_76 => ?_)
          · refine lv_iconst (v := 0) hx hb dX3_percent_84 (by decide) ?_
            refine lv_iadd hx hb dX3_percent_85 ?_
            exact retI F hr rfl (fun _ => 0) hH (by unfold pctM stepP; rw [if_pos c_20, if_neg c_31, if_neg c_51, if_pos c_66, if_pos c_76]) (Nat.le_of_ble_eq_true rfl) (Nat.le_of_ble_eq_true rfl) dX3_percent_86
          · refine lv_bipush (v := (-10)) hx hb dX3_percent_79 (by decide) ?_
            refine lv_goto (tgt := 85) hx hb dX3_percent_81 (by decide) ?_
            refine lv_iadd hx hb dX3_percent_85 ?_
            exact retI F hr rfl (fun _ => 0) hH (by unfold pctM stepP; rw [if_pos c_20, if_neg c_31, if_neg c_51, if_pos c_66, if_neg c_76]) (Nat.le_of_ble_eq_true rfl) (Nat.le_of_ble_eq_true rfl) dX3_percent_86
        · refine lv_iconst (v := 5) hx hb dX3_percent_69 (by decide) ?_
          refine lv_goto (tgt := 85) hx hb dX3_percent_70 (by decide) ?_
          refine lv_iadd hx hb dX3_percent_85 ?_
          exact retI F hr rfl (fun _ => 0) hH (by unfold pctM stepP; rw [if_pos c_20, if_neg c_31, if_neg c_51, if_neg c_66]) (Nat.le_of_ble_eq_true rfl) (Nat.le_of_ble_eq_true rfl) dX3_percent_86
  · refine lv_bipush (v := 80) hx hb dX3_percent_23 (by decide) ?_
    refine lv_goto (tgt := 41) hx hb dX3_percent_25 (by decide) ?_
    refine lv_istore (lv' := [(4, .int 80), (3, .int (a 7 i)), (2, .int (fillsN a i (f 16) (cutM a i (f 16) cn) nc)), (0, .ref (q 0)), (1, .int (nI i))]) hx hb dX3_percent_41 hl (by decide) rfl (fun ls hl => ?_)
    refine lv_iload hx hb dX3_percent_43 (lv_at hl 0 rfl) ?_
    refine lv_aload_n hx hb dX3_percent_45 rfl (lv_at hl 3 rfl) ?_
    refine rget (C := RX3) (T := TX3) (N := 25) (ref := RX3) F in_X3_percent_X3 hH 0 rfl rfl 2 (by decide) (by decide +kernel) (fun _ h9 => h9) (v := .ref (q 2)) rfl dX3_percent_46 ?_
    refine lv_iload_n hx hb dX3_percent_49 rfl (lv_at hl 4 rfl) ?_
    refine rzald F hH 2 (n := 8) (f := a 2) rfl i rfl (by omega) (by decide) dX3_percent_50 ?_
    refine lv_if_eq (tgt := 59) hx hb dX3_percent_51 (by decide) (fun c_51 => ?_) (fun c_51 => ?_)
    · refine lv_iconst (v := 0) hx hb dX3_percent_59 (by decide) ?_
      refine lv_iadd hx hb dX3_percent_60 ?_
      refine lv_istore (lv' := [(4, .int (80 + 0)), (3, .int (a 7 i)), (2, .int (fillsN a i (f 16) (cutM a i (f 16) cn) nc)), (0, .ref (q 0)), (1, .int (nI i))]) hx hb dX3_percent_61 hl (by decide) rfl (fun ls hl => ?_)
      refine lv_iload hx hb dX3_percent_63 (lv_at hl 0 rfl) ?_
      refine lv_iload_n hx hb dX3_percent_65 rfl (lv_at hl 2 rfl) ?_
      refine lv_if_eq (tgt := 73) hx hb dX3_percent_66 (by decide) (fun c_66 => ?_) (fun c_66 => ?_)
      · refine lv_iload_n hx hb dX3_percent_73 rfl (lv_at hl 1 rfl) ?_
        refine lv_bipush (v := 12) hx hb dX3_percent_74 (by decide) ?_
        refine lv_icmp_lt (tgt := 84) hx hb dX3_percent_76 (by decide) (fun c_76 => ?_) (fun c_76 => ?_)
        · refine lv_iconst (v := 0) hx hb dX3_percent_84 (by decide) ?_
          refine lv_iadd hx hb dX3_percent_85 ?_
          exact retI F hr rfl (fun _ => 0) hH (by unfold pctM stepP; rw [if_neg c_20, if_pos c_51, if_pos c_66, if_pos c_76]) (Nat.le_of_ble_eq_true rfl) (Nat.le_of_ble_eq_true rfl) dX3_percent_86
        · refine lv_bipush (v := (-10)) hx hb dX3_percent_79 (by decide) ?_
          refine lv_goto (tgt := 85) hx hb dX3_percent_81 (by decide) ?_
          refine lv_iadd hx hb dX3_percent_85 ?_
          exact retI F hr rfl (fun _ => 0) hH (by unfold pctM stepP; rw [if_neg c_20, if_pos c_51, if_pos c_66, if_neg c_76]) (Nat.le_of_ble_eq_true rfl) (Nat.le_of_ble_eq_true rfl) dX3_percent_86
      · refine lv_iconst (v := 5) hx hb dX3_percent_69 (by decide) ?_
        refine lv_goto (tgt := 85) hx hb dX3_percent_70 (by decide) ?_
        refine lv_iadd hx hb dX3_percent_85 ?_
        exact retI F hr rfl (fun _ => 0) hH (by unfold pctM stepP; rw [if_neg c_20, if_pos c_51, if_neg c_66]) (Nat.le_of_ble_eq_true rfl) (Nat.le_of_ble_eq_true rfl) dX3_percent_86
    · refine lv_bipush (v := 7) hx hb dX3_percent_54 (by decide) ?_
      refine lv_goto (tgt := 60) hx hb dX3_percent_56 (by decide) ?_
      refine lv_iadd hx hb dX3_percent_60 ?_
      refine lv_istore (lv' := [(4, .int (80 + 7)), (3, .int (a 7 i)), (2, .int (fillsN a i (f 16) (cutM a i (f 16) cn) nc)), (0, .ref (q 0)), (1, .int (nI i))]) hx hb dX3_percent_61 hl (by decide) rfl (fun ls hl => ?_)
      refine lv_iload hx hb dX3_percent_63 (lv_at hl 0 rfl) ?_
      refine lv_iload_n hx hb dX3_percent_65 rfl (lv_at hl 2 rfl) ?_
      refine lv_if_eq (tgt := 73) hx hb dX3_percent_66 (by decide) (fun c_66 => ?_) (fun c_66 => ?_)
      · refine lv_iload_n hx hb dX3_percent_73 rfl (lv_at hl 1 rfl) ?_
        refine lv_bipush (v := 12) hx hb dX3_percent_74 (by decide) ?_
        refine lv_icmp_lt (tgt := 84) hx hb dX3_percent_76 (by decide) (fun c_76 => ?_) (fun c_76 => ?_)
        · refine lv_iconst (v := 0) hx hb dX3_percent_84 (by decide) ?_
          refine lv_iadd hx hb dX3_percent_85 ?_
          exact retI F hr rfl (fun _ => 0) hH (by unfold pctM stepP; rw [if_neg c_20, if_neg c_51, if_pos c_66, if_pos c_76]) (Nat.le_of_ble_eq_true rfl) (Nat.le_of_ble_eq_true rfl) dX3_percent_86
        · refine lv_bipush (v := (-10)) hx hb dX3_percent_79 (by decide) ?_
          refine lv_goto (tgt := 85) hx hb dX3_percent_81 (by decide) ?_
          refine lv_iadd hx hb dX3_percent_85 ?_
          exact retI F hr rfl (fun _ => 0) hH (by unfold pctM stepP; rw [if_neg c_20, if_neg c_51, if_pos c_66, if_neg c_76]) (Nat.le_of_ble_eq_true rfl) (Nat.le_of_ble_eq_true rfl) dX3_percent_86
      · refine lv_iconst (v := 5) hx hb dX3_percent_69 (by decide) ?_
        refine lv_goto (tgt := 85) hx hb dX3_percent_70 (by decide) ?_
        refine lv_iadd hx hb dX3_percent_85 ?_
        exact retI F hr rfl (fun _ => 0) hH (by unfold pctM stepP; rw [if_neg c_20, if_neg c_51, if_neg c_66]) (Nat.le_of_ble_eq_true rfl) (Nat.le_of_ble_eq_true rfl) dX3_percent_86

set_option maxHeartbeats 4000000 in
set_option maxRecDepth 100000 in
theorem c_X3_paid_1 (l : Launch) (G : Gx) (q : Nat → Nat) (f : Nat → Int32) (a : Nat → Nat → Int32) (n : Nat) (e0 : f 0 = nI n) (hn : n ≤ 8) (i : Nat) (hi : i < n) (t : Nat) (e16 : f 16 = nI t) (ht : t ≤ 201) (j : Nat) (hj : j < t) : MI l yX3_paid wsX3_paid ({ frames := 1, cells := 0, slots := 0, locals := 21 } : Room) [.ref (q 0), .int (nI i), .int (nI j)] G (mW G q f a) (fun u => mW G q (va_up f 24 0) a) (a 18 (201 * i + j)) := by
  refine ofMI (cc := cX3_paid) (maxL := 3) (ret := (some .int)) (by decide) rfl (Nat.le_of_ble_eq_true rfl) (fun p e s m below meth c A ls F hr hnm hH hl => ?_)
  have F : Fx G p s m _ meth c cX3_paid 3 wsX3_paid RX3 A := F
  have hx := F.1.1
  have hb := F.1.2.1
  have hl : lv_has ls 3 [(0, .ref (q 0)), (1, .int (nI i)), (2, .int (nI j))] := hl
  refine lv_aload_n hx hb dX3_paid_0 rfl (lv_at hl 0 rfl) ?_
  refine lv_aload_n hx hb dX3_paid_1 rfl (lv_at hl 0 rfl) ?_
  refine lv_iload_n hx hb dX3_paid_2 rfl (lv_at hl 1 rfl) ?_
  refine callVI0 (rest := [.ref (q 0)]) F (c_X3_isWorker_1 l G q f a n e0 hn i hi) gX3_paid_X3_isWorker rfl hdX3_isWorker ⟨Nat.le_of_ble_eq_true rfl, Nat.le_of_ble_eq_true rfl⟩ hH ⟨0, 3, _, _, rfl, rfl, rfl⟩ rfl hl.1 (Nat.le_of_ble_eq_true rfl) dX3_paid_3 ⟨Nat.le_of_ble_eq_true rfl, Nat.le_of_ble_eq_true rfl⟩ rfl (fun u H locs hH => ?_)
  have hH : HH G A s (mW G q f a) H locs := hH
  refine callVI0 (rest := []) F (c_X3_asks_1 l G q f a) gX3_paid_X3_asks rfl hdX3_asks ⟨Nat.le_of_ble_eq_true rfl, Nat.le_of_ble_eq_true rfl⟩ hH ⟨0, 3, _, _, rfl, rfl, rfl⟩ rfl hl.1 (Nat.le_of_ble_eq_true rfl) dX3_paid_6 ⟨Nat.le_of_ble_eq_true rfl, Nat.le_of_ble_eq_true rfl⟩ rfl (fun u H locs hH => ?_)
  have hH : HH G A s (mW G q (va_up f 24 0) a) H locs := hH
  refine lv_if_ne (tgt := 14) hx hb dX3_paid_9 (by decide) (fun c_9 => ?_) (fun c_9 => absurd c_9 (by decide))
  refine lv_aload_n hx hb dX3_paid_14 rfl (lv_at hl 0 rfl) ?_
  refine lv_iload_n hx hb dX3_paid_15 rfl (lv_at hl 2 rfl) ?_
  refine callVI0 (rest := []) F (c_X3_isPast_1 l G q (va_up f 24 0) a t e16 ht j hj) gX3_paid_X3_isPast rfl hdX3_isPast ⟨Nat.le_of_ble_eq_true rfl, Nat.le_of_ble_eq_true rfl⟩ hH ⟨0, 3, _, _, rfl, rfl, rfl⟩ rfl hl.1 (Nat.le_of_ble_eq_true rfl) dX3_paid_16 ⟨Nat.le_of_ble_eq_true rfl, Nat.le_of_ble_eq_true rfl⟩ rfl (fun u H locs hH => ?_)
  have hH : HH G A s (mW G q (va_up f 24 0) a) H locs := hH
  refine lv_if_eq (tgt := 37) hx hb dX3_paid_19 (by decide) (fun c_19 => absurd c_19 (by decide)) (fun c_19 => ?_)
  refine lv_aload_n hx hb dX3_paid_22 rfl (lv_at hl 0 rfl) ?_
  refine rget (C := RX3) (T := TX3) (N := 25) (ref := RX3) F in_X3_paid_X3 hH 0 rfl rfl 18 (by decide) (by decide +kernel) (fun _ h9 => h9) (v := .ref (q 18)) rfl dX3_paid_23 ?_
  refine lv_sipush (v := 201) hx hb dX3_paid_26 (by decide) ?_
  refine lv_iload_n hx hb dX3_paid_29 rfl (lv_at hl 1 rfl) ?_
  refine lv_imul hx hb dX3_paid_30 ?_
  refine lv_iload_n hx hb dX3_paid_31 rfl (lv_at hl 2 rfl) ?_
  refine lv_iadd hx hb dX3_paid_32 ?_
  refine riald F hH 14 (n := 1608) (f := a 18) rfl (201 * i + j) (ix201 i j) (by omega) (by decide) dX3_paid_33 ?_
  refine lv_goto (tgt := 42) hx hb dX3_paid_34 (by decide) ?_
  exact retI F hr rfl (fun _ => 0) hH rfl (Nat.le_of_ble_eq_true rfl) (Nat.le_of_ble_eq_true rfl) dX3_paid_42

set_option maxHeartbeats 4000000 in
set_option maxRecDepth 100000 in
theorem c_X3_paid_2 (l : Launch) (G : Gx) (q : Nat → Nat) (f : Nat → Int32) (a : Nat → Nat → Int32) (n : Nat) (e0 : f 0 = nI n) (hn : n ≤ 8) (i : Nat) (hi : i < n) (t : Nat) (e16 : f 16 = nI t) (ht : t ≤ 201) (w : Int32) (h : w < 0 ∨ nI t ≤ w) : MI l yX3_paid wsX3_paid ({ frames := 1, cells := 0, slots := 0, locals := 21 } : Room) [.ref (q 0), .int (nI i), .int w] G (mW G q f a) (fun u => mW G q (va_up f 24 2) a) 0 := by
  refine ofMI (cc := cX3_paid) (maxL := 3) (ret := (some .int)) (by decide) rfl (Nat.le_of_ble_eq_true rfl) (fun p e s m below meth c A ls F hr hnm hH hl => ?_)
  have F : Fx G p s m _ meth c cX3_paid 3 wsX3_paid RX3 A := F
  have hx := F.1.1
  have hb := F.1.2.1
  have hl : lv_has ls 3 [(0, .ref (q 0)), (1, .int (nI i)), (2, .int w)] := hl
  refine lv_aload_n hx hb dX3_paid_0 rfl (lv_at hl 0 rfl) ?_
  refine lv_aload_n hx hb dX3_paid_1 rfl (lv_at hl 0 rfl) ?_
  refine lv_iload_n hx hb dX3_paid_2 rfl (lv_at hl 1 rfl) ?_
  refine callVI0 (rest := [.ref (q 0)]) F (c_X3_isWorker_1 l G q f a n e0 hn i hi) gX3_paid_X3_isWorker rfl hdX3_isWorker ⟨Nat.le_of_ble_eq_true rfl, Nat.le_of_ble_eq_true rfl⟩ hH ⟨0, 3, _, _, rfl, rfl, rfl⟩ rfl hl.1 (Nat.le_of_ble_eq_true rfl) dX3_paid_3 ⟨Nat.le_of_ble_eq_true rfl, Nat.le_of_ble_eq_true rfl⟩ rfl (fun u H locs hH => ?_)
  have hH : HH G A s (mW G q f a) H locs := hH
  refine callVI0 (rest := []) F (c_X3_asks_1 l G q f a) gX3_paid_X3_asks rfl hdX3_asks ⟨Nat.le_of_ble_eq_true rfl, Nat.le_of_ble_eq_true rfl⟩ hH ⟨0, 3, _, _, rfl, rfl, rfl⟩ rfl hl.1 (Nat.le_of_ble_eq_true rfl) dX3_paid_6 ⟨Nat.le_of_ble_eq_true rfl, Nat.le_of_ble_eq_true rfl⟩ rfl (fun u H locs hH => ?_)
  have hH : HH G A s (mW G q (va_up f 24 0) a) H locs := hH
  refine lv_if_ne (tgt := 14) hx hb dX3_paid_9 (by decide) (fun c_9 => ?_) (fun c_9 => absurd c_9 (by decide))
  refine lv_aload_n hx hb dX3_paid_14 rfl (lv_at hl 0 rfl) ?_
  refine lv_iload_n hx hb dX3_paid_15 rfl (lv_at hl 2 rfl) ?_
  refine callVI0 (rest := []) F (c_X3_isPast_0 l G q (va_up f 24 0) a t e16 ht w h) gX3_paid_X3_isPast rfl hdX3_isPast ⟨Nat.le_of_ble_eq_true rfl, Nat.le_of_ble_eq_true rfl⟩ hH ⟨0, 3, _, _, rfl, rfl, rfl⟩ rfl hl.1 (Nat.le_of_ble_eq_true rfl) dX3_paid_16 ⟨Nat.le_of_ble_eq_true rfl, Nat.le_of_ble_eq_true rfl⟩ rfl (fun u H locs hH => ?_)
  have hH : HH G A s (mW G q (va_up f 24 0) a) H locs := hH
  refine lv_if_eq (tgt := 37) hx hb dX3_paid_19 (by decide) (fun c_19 => ?_) (fun c_19 => absurd rfl c_19)
  refine lv_aload_n hx hb dX3_paid_37 rfl (lv_at hl 0 rfl) ?_
  refine lv_iconst (v := 2) hx hb dX3_paid_38 (by decide) ?_
  refine callVI0 (rest := []) F (c_X3_fails l G q (va_up f 24 0) a 2) gX3_paid_X3_fails rfl hdX3_fails ⟨Nat.le_of_ble_eq_true rfl, Nat.le_of_ble_eq_true rfl⟩ hH ⟨0, 3, _, _, rfl, rfl, rfl⟩ rfl hl.1 (Nat.le_of_ble_eq_true rfl) dX3_paid_39 ⟨Nat.le_of_ble_eq_true rfl, Nat.le_of_ble_eq_true rfl⟩ rfl (fun u H locs hH => ?_)
  have hH : HH G A s (mW G q (va_up f 24 2) a) H locs := hH
  exact retI F hr rfl (fun _ => 0) hH rfl (Nat.le_of_ble_eq_true rfl) (Nat.le_of_ble_eq_true rfl) dX3_paid_42

set_option maxHeartbeats 4000000 in
set_option maxRecDepth 100000 in
theorem c_X3_paid_0 (l : Launch) (G : Gx) (q : Nat → Nat) (f : Nat → Int32) (a : Nat → Nat → Int32) (n : Nat) (e0 : f 0 = nI n) (hn : n ≤ 8) (v : Int32) (h : v < 0 ∨ nI n ≤ v) (w : Int32) : MI l yX3_paid wsX3_paid ({ frames := 1, cells := 0, slots := 0, locals := 21 } : Room) [.ref (q 0), .int v, .int w] G (mW G q f a) (fun u => mW G q (va_up f 24 1) a) 0 := by
  refine ofMI (cc := cX3_paid) (maxL := 3) (ret := (some .int)) (by decide) rfl (Nat.le_of_ble_eq_true rfl) (fun p e s m below meth c A ls F hr hnm hH hl => ?_)
  have F : Fx G p s m _ meth c cX3_paid 3 wsX3_paid RX3 A := F
  have hx := F.1.1
  have hb := F.1.2.1
  have hl : lv_has ls 3 [(0, .ref (q 0)), (1, .int v), (2, .int w)] := hl
  refine lv_aload_n hx hb dX3_paid_0 rfl (lv_at hl 0 rfl) ?_
  refine lv_aload_n hx hb dX3_paid_1 rfl (lv_at hl 0 rfl) ?_
  refine lv_iload_n hx hb dX3_paid_2 rfl (lv_at hl 1 rfl) ?_
  refine callVI0 (rest := [.ref (q 0)]) F (c_X3_isWorker_0 l G q f a n e0 hn v h) gX3_paid_X3_isWorker rfl hdX3_isWorker ⟨Nat.le_of_ble_eq_true rfl, Nat.le_of_ble_eq_true rfl⟩ hH ⟨0, 3, _, _, rfl, rfl, rfl⟩ rfl hl.1 (Nat.le_of_ble_eq_true rfl) dX3_paid_3 ⟨Nat.le_of_ble_eq_true rfl, Nat.le_of_ble_eq_true rfl⟩ rfl (fun u H locs hH => ?_)
  have hH : HH G A s (mW G q f a) H locs := hH
  refine callVI0 (rest := []) F (c_X3_asks_0 l G q f a) gX3_paid_X3_asks rfl hdX3_asks ⟨Nat.le_of_ble_eq_true rfl, Nat.le_of_ble_eq_true rfl⟩ hH ⟨0, 3, _, _, rfl, rfl, rfl⟩ rfl hl.1 (Nat.le_of_ble_eq_true rfl) dX3_paid_6 ⟨Nat.le_of_ble_eq_true rfl, Nat.le_of_ble_eq_true rfl⟩ rfl (fun u H locs hH => ?_)
  have hH : HH G A s (mW G q (va_up f 24 1) a) H locs := hH
  refine lv_if_ne (tgt := 14) hx hb dX3_paid_9 (by decide) (fun c_9 => absurd rfl c_9) (fun c_9 => ?_)
  refine lv_iconst (v := 0) hx hb dX3_paid_12 (by decide) ?_
  exact retI F hr rfl (fun _ => 0) hH rfl (Nat.le_of_ble_eq_true rfl) (Nat.le_of_ble_eq_true rfl) dX3_paid_13

set_option maxHeartbeats 4000000 in
set_option maxRecDepth 100000 in
theorem c_X3_madeUp_1 (l : Launch) (G : Gx) (q : Nat → Nat) (f : Nat → Int32) (a : Nat → Nat → Int32) (n : Nat) (e0 : f 0 = nI n) (hn : n ≤ 8) (i : Nat) (hi : i < n) (t : Nat) (e16 : f 16 = nI t) (ht : t ≤ 201) (j : Nat) (hj : j < t) : MI l yX3_madeUp wsX3_madeUp ({ frames := 1, cells := 0, slots := 0, locals := 21 } : Room) [.ref (q 0), .int (nI i), .int (nI j)] G (mW G q f a) (fun u => mW G q (va_up f 24 0) a) (a 19 (201 * i + j)) := by
  refine ofMI (cc := cX3_madeUp) (maxL := 3) (ret := (some .int)) (by decide) rfl (Nat.le_of_ble_eq_true rfl) (fun p e s m below meth c A ls F hr hnm hH hl => ?_)
  have F : Fx G p s m _ meth c cX3_madeUp 3 wsX3_madeUp RX3 A := F
  have hx := F.1.1
  have hb := F.1.2.1
  have hl : lv_has ls 3 [(0, .ref (q 0)), (1, .int (nI i)), (2, .int (nI j))] := hl
  refine lv_aload_n hx hb dX3_madeUp_0 rfl (lv_at hl 0 rfl) ?_
  refine lv_aload_n hx hb dX3_madeUp_1 rfl (lv_at hl 0 rfl) ?_
  refine lv_iload_n hx hb dX3_madeUp_2 rfl (lv_at hl 1 rfl) ?_
  refine callVI0 (rest := [.ref (q 0)]) F (c_X3_isWorker_1 l G q f a n e0 hn i hi) gX3_madeUp_X3_isWorker rfl hdX3_isWorker ⟨Nat.le_of_ble_eq_true rfl, Nat.le_of_ble_eq_true rfl⟩ hH ⟨0, 3, _, _, rfl, rfl, rfl⟩ rfl hl.1 (Nat.le_of_ble_eq_true rfl) dX3_madeUp_3 ⟨Nat.le_of_ble_eq_true rfl, Nat.le_of_ble_eq_true rfl⟩ rfl (fun u H locs hH => ?_)
  have hH : HH G A s (mW G q f a) H locs := hH
  refine callVI0 (rest := []) F (c_X3_asks_1 l G q f a) gX3_madeUp_X3_asks rfl hdX3_asks ⟨Nat.le_of_ble_eq_true rfl, Nat.le_of_ble_eq_true rfl⟩ hH ⟨0, 3, _, _, rfl, rfl, rfl⟩ rfl hl.1 (Nat.le_of_ble_eq_true rfl) dX3_madeUp_6 ⟨Nat.le_of_ble_eq_true rfl, Nat.le_of_ble_eq_true rfl⟩ rfl (fun u H locs hH => ?_)
  have hH : HH G A s (mW G q (va_up f 24 0) a) H locs := hH
  refine lv_if_ne (tgt := 14) hx hb dX3_madeUp_9 (by decide) (fun c_9 => ?_) (fun c_9 => absurd c_9 (by decide))
  refine lv_aload_n hx hb dX3_madeUp_14 rfl (lv_at hl 0 rfl) ?_
  refine lv_iload_n hx hb dX3_madeUp_15 rfl (lv_at hl 2 rfl) ?_
  refine callVI0 (rest := []) F (c_X3_isPast_1 l G q (va_up f 24 0) a t e16 ht j hj) gX3_madeUp_X3_isPast rfl hdX3_isPast ⟨Nat.le_of_ble_eq_true rfl, Nat.le_of_ble_eq_true rfl⟩ hH ⟨0, 3, _, _, rfl, rfl, rfl⟩ rfl hl.1 (Nat.le_of_ble_eq_true rfl) dX3_madeUp_16 ⟨Nat.le_of_ble_eq_true rfl, Nat.le_of_ble_eq_true rfl⟩ rfl (fun u H locs hH => ?_)
  have hH : HH G A s (mW G q (va_up f 24 0) a) H locs := hH
  refine lv_if_eq (tgt := 37) hx hb dX3_madeUp_19 (by decide) (fun c_19 => absurd c_19 (by decide)) (fun c_19 => ?_)
  refine lv_aload_n hx hb dX3_madeUp_22 rfl (lv_at hl 0 rfl) ?_
  refine rget (C := RX3) (T := TX3) (N := 25) (ref := RX3) F in_X3_madeUp_X3 hH 0 rfl rfl 19 (by decide) (by decide +kernel) (fun _ h9 => h9) (v := .ref (q 19)) rfl dX3_madeUp_23 ?_
  refine lv_sipush (v := 201) hx hb dX3_madeUp_26 (by decide) ?_
  refine lv_iload_n hx hb dX3_madeUp_29 rfl (lv_at hl 1 rfl) ?_
  refine lv_imul hx hb dX3_madeUp_30 ?_
  refine lv_iload_n hx hb dX3_madeUp_31 rfl (lv_at hl 2 rfl) ?_
  refine lv_iadd hx hb dX3_madeUp_32 ?_
  refine riald F hH 15 (n := 1608) (f := a 19) rfl (201 * i + j) (ix201 i j) (by omega) (by decide) dX3_madeUp_33 ?_
  refine lv_goto (tgt := 42) hx hb dX3_madeUp_34 (by decide) ?_
  exact retI F hr rfl (fun _ => 0) hH rfl (Nat.le_of_ble_eq_true rfl) (Nat.le_of_ble_eq_true rfl) dX3_madeUp_42

set_option maxHeartbeats 4000000 in
set_option maxRecDepth 100000 in
theorem c_X3_madeUp_2 (l : Launch) (G : Gx) (q : Nat → Nat) (f : Nat → Int32) (a : Nat → Nat → Int32) (n : Nat) (e0 : f 0 = nI n) (hn : n ≤ 8) (i : Nat) (hi : i < n) (t : Nat) (e16 : f 16 = nI t) (ht : t ≤ 201) (w : Int32) (h : w < 0 ∨ nI t ≤ w) : MI l yX3_madeUp wsX3_madeUp ({ frames := 1, cells := 0, slots := 0, locals := 21 } : Room) [.ref (q 0), .int (nI i), .int w] G (mW G q f a) (fun u => mW G q (va_up f 24 2) a) 0 := by
  refine ofMI (cc := cX3_madeUp) (maxL := 3) (ret := (some .int)) (by decide) rfl (Nat.le_of_ble_eq_true rfl) (fun p e s m below meth c A ls F hr hnm hH hl => ?_)
  have F : Fx G p s m _ meth c cX3_madeUp 3 wsX3_madeUp RX3 A := F
  have hx := F.1.1
  have hb := F.1.2.1
  have hl : lv_has ls 3 [(0, .ref (q 0)), (1, .int (nI i)), (2, .int w)] := hl
  refine lv_aload_n hx hb dX3_madeUp_0 rfl (lv_at hl 0 rfl) ?_
  refine lv_aload_n hx hb dX3_madeUp_1 rfl (lv_at hl 0 rfl) ?_
  refine lv_iload_n hx hb dX3_madeUp_2 rfl (lv_at hl 1 rfl) ?_
  refine callVI0 (rest := [.ref (q 0)]) F (c_X3_isWorker_1 l G q f a n e0 hn i hi) gX3_madeUp_X3_isWorker rfl hdX3_isWorker ⟨Nat.le_of_ble_eq_true rfl, Nat.le_of_ble_eq_true rfl⟩ hH ⟨0, 3, _, _, rfl, rfl, rfl⟩ rfl hl.1 (Nat.le_of_ble_eq_true rfl) dX3_madeUp_3 ⟨Nat.le_of_ble_eq_true rfl, Nat.le_of_ble_eq_true rfl⟩ rfl (fun u H locs hH => ?_)
  have hH : HH G A s (mW G q f a) H locs := hH
  refine callVI0 (rest := []) F (c_X3_asks_1 l G q f a) gX3_madeUp_X3_asks rfl hdX3_asks ⟨Nat.le_of_ble_eq_true rfl, Nat.le_of_ble_eq_true rfl⟩ hH ⟨0, 3, _, _, rfl, rfl, rfl⟩ rfl hl.1 (Nat.le_of_ble_eq_true rfl) dX3_madeUp_6 ⟨Nat.le_of_ble_eq_true rfl, Nat.le_of_ble_eq_true rfl⟩ rfl (fun u H locs hH => ?_)
  have hH : HH G A s (mW G q (va_up f 24 0) a) H locs := hH
  refine lv_if_ne (tgt := 14) hx hb dX3_madeUp_9 (by decide) (fun c_9 => ?_) (fun c_9 => absurd c_9 (by decide))
  refine lv_aload_n hx hb dX3_madeUp_14 rfl (lv_at hl 0 rfl) ?_
  refine lv_iload_n hx hb dX3_madeUp_15 rfl (lv_at hl 2 rfl) ?_
  refine callVI0 (rest := []) F (c_X3_isPast_0 l G q (va_up f 24 0) a t e16 ht w h) gX3_madeUp_X3_isPast rfl hdX3_isPast ⟨Nat.le_of_ble_eq_true rfl, Nat.le_of_ble_eq_true rfl⟩ hH ⟨0, 3, _, _, rfl, rfl, rfl⟩ rfl hl.1 (Nat.le_of_ble_eq_true rfl) dX3_madeUp_16 ⟨Nat.le_of_ble_eq_true rfl, Nat.le_of_ble_eq_true rfl⟩ rfl (fun u H locs hH => ?_)
  have hH : HH G A s (mW G q (va_up f 24 0) a) H locs := hH
  refine lv_if_eq (tgt := 37) hx hb dX3_madeUp_19 (by decide) (fun c_19 => ?_) (fun c_19 => absurd rfl c_19)
  refine lv_aload_n hx hb dX3_madeUp_37 rfl (lv_at hl 0 rfl) ?_
  refine lv_iconst (v := 2) hx hb dX3_madeUp_38 (by decide) ?_
  refine callVI0 (rest := []) F (c_X3_fails l G q (va_up f 24 0) a 2) gX3_madeUp_X3_fails rfl hdX3_fails ⟨Nat.le_of_ble_eq_true rfl, Nat.le_of_ble_eq_true rfl⟩ hH ⟨0, 3, _, _, rfl, rfl, rfl⟩ rfl hl.1 (Nat.le_of_ble_eq_true rfl) dX3_madeUp_39 ⟨Nat.le_of_ble_eq_true rfl, Nat.le_of_ble_eq_true rfl⟩ rfl (fun u H locs hH => ?_)
  have hH : HH G A s (mW G q (va_up f 24 2) a) H locs := hH
  exact retI F hr rfl (fun _ => 0) hH rfl (Nat.le_of_ble_eq_true rfl) (Nat.le_of_ble_eq_true rfl) dX3_madeUp_42

set_option maxHeartbeats 4000000 in
set_option maxRecDepth 100000 in
theorem c_X3_madeUp_0 (l : Launch) (G : Gx) (q : Nat → Nat) (f : Nat → Int32) (a : Nat → Nat → Int32) (n : Nat) (e0 : f 0 = nI n) (hn : n ≤ 8) (v : Int32) (h : v < 0 ∨ nI n ≤ v) (w : Int32) : MI l yX3_madeUp wsX3_madeUp ({ frames := 1, cells := 0, slots := 0, locals := 21 } : Room) [.ref (q 0), .int v, .int w] G (mW G q f a) (fun u => mW G q (va_up f 24 1) a) 0 := by
  refine ofMI (cc := cX3_madeUp) (maxL := 3) (ret := (some .int)) (by decide) rfl (Nat.le_of_ble_eq_true rfl) (fun p e s m below meth c A ls F hr hnm hH hl => ?_)
  have F : Fx G p s m _ meth c cX3_madeUp 3 wsX3_madeUp RX3 A := F
  have hx := F.1.1
  have hb := F.1.2.1
  have hl : lv_has ls 3 [(0, .ref (q 0)), (1, .int v), (2, .int w)] := hl
  refine lv_aload_n hx hb dX3_madeUp_0 rfl (lv_at hl 0 rfl) ?_
  refine lv_aload_n hx hb dX3_madeUp_1 rfl (lv_at hl 0 rfl) ?_
  refine lv_iload_n hx hb dX3_madeUp_2 rfl (lv_at hl 1 rfl) ?_
  refine callVI0 (rest := [.ref (q 0)]) F (c_X3_isWorker_0 l G q f a n e0 hn v h) gX3_madeUp_X3_isWorker rfl hdX3_isWorker ⟨Nat.le_of_ble_eq_true rfl, Nat.le_of_ble_eq_true rfl⟩ hH ⟨0, 3, _, _, rfl, rfl, rfl⟩ rfl hl.1 (Nat.le_of_ble_eq_true rfl) dX3_madeUp_3 ⟨Nat.le_of_ble_eq_true rfl, Nat.le_of_ble_eq_true rfl⟩ rfl (fun u H locs hH => ?_)
  have hH : HH G A s (mW G q f a) H locs := hH
  refine callVI0 (rest := []) F (c_X3_asks_0 l G q f a) gX3_madeUp_X3_asks rfl hdX3_asks ⟨Nat.le_of_ble_eq_true rfl, Nat.le_of_ble_eq_true rfl⟩ hH ⟨0, 3, _, _, rfl, rfl, rfl⟩ rfl hl.1 (Nat.le_of_ble_eq_true rfl) dX3_madeUp_6 ⟨Nat.le_of_ble_eq_true rfl, Nat.le_of_ble_eq_true rfl⟩ rfl (fun u H locs hH => ?_)
  have hH : HH G A s (mW G q (va_up f 24 1) a) H locs := hH
  refine lv_if_ne (tgt := 14) hx hb dX3_madeUp_9 (by decide) (fun c_9 => absurd rfl c_9) (fun c_9 => ?_)
  refine lv_iconst (v := 0) hx hb dX3_madeUp_12 (by decide) ?_
  exact retI F hr rfl (fun _ => 0) hH rfl (Nat.le_of_ble_eq_true rfl) (Nat.le_of_ble_eq_true rfl) dX3_madeUp_13

set_option maxHeartbeats 4000000 in
set_option maxRecDepth 100000 in
theorem c_X3_cutWeeks_1 (l : Launch) (G : Gx) (q : Nat → Nat) (f : Nat → Int32) (a : Nat → Nat → Int32) (n : Nat) (e0 : f 0 = nI n) (hn : n ≤ 8) (i : Nat) (hi : i < n) : MI l yX3_cutWeeks wsX3_cutWeeks ({ frames := 1, cells := 0, slots := 0, locals := 21 } : Room) [.ref (q 0), .int (nI i)] G (mW G q f a) (fun u => mW G q (va_up f 24 0) a) (a 7 i) := by
  refine ofMI (cc := cX3_cutWeeks) (maxL := 2) (ret := (some .int)) (by decide) rfl (Nat.le_of_ble_eq_true rfl) (fun p e s m below meth c A ls F hr hnm hH hl => ?_)
  have F : Fx G p s m _ meth c cX3_cutWeeks 2 wsX3_cutWeeks RX3 A := F
  have hx := F.1.1
  have hb := F.1.2.1
  have hl : lv_has ls 2 [(0, .ref (q 0)), (1, .int (nI i))] := hl
  refine lv_aload_n hx hb dX3_cutWeeks_0 rfl (lv_at hl 0 rfl) ?_
  refine lv_aload_n hx hb dX3_cutWeeks_1 rfl (lv_at hl 0 rfl) ?_
  refine lv_iload_n hx hb dX3_cutWeeks_2 rfl (lv_at hl 1 rfl) ?_
  refine callVI0 (rest := [.ref (q 0)]) F (c_X3_isWorker_1 l G q f a n e0 hn i hi) gX3_cutWeeks_X3_isWorker rfl hdX3_isWorker ⟨Nat.le_of_ble_eq_true rfl, Nat.le_of_ble_eq_true rfl⟩ hH ⟨0, 3, _, _, rfl, rfl, rfl⟩ rfl hl.1 (Nat.le_of_ble_eq_true rfl) dX3_cutWeeks_3 ⟨Nat.le_of_ble_eq_true rfl, Nat.le_of_ble_eq_true rfl⟩ rfl (fun u H locs hH => ?_)
  have hH : HH G A s (mW G q f a) H locs := hH
  refine callVI0 (rest := []) F (c_X3_asks_1 l G q f a) gX3_cutWeeks_X3_asks rfl hdX3_asks ⟨Nat.le_of_ble_eq_true rfl, Nat.le_of_ble_eq_true rfl⟩ hH ⟨0, 3, _, _, rfl, rfl, rfl⟩ rfl hl.1 (Nat.le_of_ble_eq_true rfl) dX3_cutWeeks_6 ⟨Nat.le_of_ble_eq_true rfl, Nat.le_of_ble_eq_true rfl⟩ rfl (fun u H locs hH => ?_)
  have hH : HH G A s (mW G q (va_up f 24 0) a) H locs := hH
  refine lv_if_eq (tgt := 21) hx hb dX3_cutWeeks_9 (by decide) (fun c_9 => absurd c_9 (by decide)) (fun c_9 => ?_)
  refine lv_aload_n hx hb dX3_cutWeeks_12 rfl (lv_at hl 0 rfl) ?_
  refine rget (C := RX3) (T := TX3) (N := 25) (ref := RX3) F in_X3_cutWeeks_X3 hH 0 rfl rfl 7 (by decide) (by decide +kernel) (fun _ h9 => h9) (v := .ref (q 7)) rfl dX3_cutWeeks_13 ?_
  refine lv_iload_n hx hb dX3_cutWeeks_16 rfl (lv_at hl 1 rfl) ?_
  refine riald F hH 7 (n := 8) (f := a 7) rfl i rfl (by omega) (by decide) dX3_cutWeeks_17 ?_
  refine lv_goto (tgt := 22) hx hb dX3_cutWeeks_18 (by decide) ?_
  exact retI F hr rfl (fun _ => 0) hH rfl (Nat.le_of_ble_eq_true rfl) (Nat.le_of_ble_eq_true rfl) dX3_cutWeeks_22

set_option maxHeartbeats 4000000 in
set_option maxRecDepth 100000 in
theorem c_X3_cutWeeks_0 (l : Launch) (G : Gx) (q : Nat → Nat) (f : Nat → Int32) (a : Nat → Nat → Int32) (n : Nat) (e0 : f 0 = nI n) (hn : n ≤ 8) (v : Int32) (h : v < 0 ∨ nI n ≤ v) : MI l yX3_cutWeeks wsX3_cutWeeks ({ frames := 1, cells := 0, slots := 0, locals := 21 } : Room) [.ref (q 0), .int v] G (mW G q f a) (fun u => mW G q (va_up f 24 1) a) 0 := by
  refine ofMI (cc := cX3_cutWeeks) (maxL := 2) (ret := (some .int)) (by decide) rfl (Nat.le_of_ble_eq_true rfl) (fun p e s m below meth c A ls F hr hnm hH hl => ?_)
  have F : Fx G p s m _ meth c cX3_cutWeeks 2 wsX3_cutWeeks RX3 A := F
  have hx := F.1.1
  have hb := F.1.2.1
  have hl : lv_has ls 2 [(0, .ref (q 0)), (1, .int v)] := hl
  refine lv_aload_n hx hb dX3_cutWeeks_0 rfl (lv_at hl 0 rfl) ?_
  refine lv_aload_n hx hb dX3_cutWeeks_1 rfl (lv_at hl 0 rfl) ?_
  refine lv_iload_n hx hb dX3_cutWeeks_2 rfl (lv_at hl 1 rfl) ?_
  refine callVI0 (rest := [.ref (q 0)]) F (c_X3_isWorker_0 l G q f a n e0 hn v h) gX3_cutWeeks_X3_isWorker rfl hdX3_isWorker ⟨Nat.le_of_ble_eq_true rfl, Nat.le_of_ble_eq_true rfl⟩ hH ⟨0, 3, _, _, rfl, rfl, rfl⟩ rfl hl.1 (Nat.le_of_ble_eq_true rfl) dX3_cutWeeks_3 ⟨Nat.le_of_ble_eq_true rfl, Nat.le_of_ble_eq_true rfl⟩ rfl (fun u H locs hH => ?_)
  have hH : HH G A s (mW G q f a) H locs := hH
  refine callVI0 (rest := []) F (c_X3_asks_0 l G q f a) gX3_cutWeeks_X3_asks rfl hdX3_asks ⟨Nat.le_of_ble_eq_true rfl, Nat.le_of_ble_eq_true rfl⟩ hH ⟨0, 3, _, _, rfl, rfl, rfl⟩ rfl hl.1 (Nat.le_of_ble_eq_true rfl) dX3_cutWeeks_6 ⟨Nat.le_of_ble_eq_true rfl, Nat.le_of_ble_eq_true rfl⟩ rfl (fun u H locs hH => ?_)
  have hH : HH G A s (mW G q (va_up f 24 1) a) H locs := hH
  refine lv_if_eq (tgt := 21) hx hb dX3_cutWeeks_9 (by decide) (fun c_9 => ?_) (fun c_9 => absurd rfl c_9)
  refine lv_iconst (v := 0) hx hb dX3_cutWeeks_21 (by decide) ?_
  exact retI F hr rfl (fun _ => 0) hH rfl (Nat.le_of_ble_eq_true rfl) (Nat.le_of_ble_eq_true rfl) dX3_cutWeeks_22

set_option maxHeartbeats 4000000 in
set_option maxRecDepth 100000 in
theorem c_X3_owes_1 (l : Launch) (G : Gx) (q : Nat → Nat) (f : Nat → Int32) (a : Nat → Nat → Int32) (n : Nat) (e0 : f 0 = nI n) (hn : n ≤ 8) (i : Nat) (hi : i < n) : MI l yX3_owes wsX3_owes ({ frames := 1, cells := 0, slots := 0, locals := 21 } : Room) [.ref (q 0), .int (nI i)] G (mW G q f a) (fun u => mW G q (va_up f 24 0) a) (a 8 i) := by
  refine ofMI (cc := cX3_owes) (maxL := 2) (ret := (some .int)) (by decide) rfl (Nat.le_of_ble_eq_true rfl) (fun p e s m below meth c A ls F hr hnm hH hl => ?_)
  have F : Fx G p s m _ meth c cX3_owes 2 wsX3_owes RX3 A := F
  have hx := F.1.1
  have hb := F.1.2.1
  have hl : lv_has ls 2 [(0, .ref (q 0)), (1, .int (nI i))] := hl
  refine lv_aload_n hx hb dX3_owes_0 rfl (lv_at hl 0 rfl) ?_
  refine lv_aload_n hx hb dX3_owes_1 rfl (lv_at hl 0 rfl) ?_
  refine lv_iload_n hx hb dX3_owes_2 rfl (lv_at hl 1 rfl) ?_
  refine callVI0 (rest := [.ref (q 0)]) F (c_X3_isWorker_1 l G q f a n e0 hn i hi) gX3_owes_X3_isWorker rfl hdX3_isWorker ⟨Nat.le_of_ble_eq_true rfl, Nat.le_of_ble_eq_true rfl⟩ hH ⟨0, 3, _, _, rfl, rfl, rfl⟩ rfl hl.1 (Nat.le_of_ble_eq_true rfl) dX3_owes_3 ⟨Nat.le_of_ble_eq_true rfl, Nat.le_of_ble_eq_true rfl⟩ rfl (fun u H locs hH => ?_)
  have hH : HH G A s (mW G q f a) H locs := hH
  refine callVI0 (rest := []) F (c_X3_asks_1 l G q f a) gX3_owes_X3_asks rfl hdX3_asks ⟨Nat.le_of_ble_eq_true rfl, Nat.le_of_ble_eq_true rfl⟩ hH ⟨0, 3, _, _, rfl, rfl, rfl⟩ rfl hl.1 (Nat.le_of_ble_eq_true rfl) dX3_owes_6 ⟨Nat.le_of_ble_eq_true rfl, Nat.le_of_ble_eq_true rfl⟩ rfl (fun u H locs hH => ?_)
  have hH : HH G A s (mW G q (va_up f 24 0) a) H locs := hH
  refine lv_if_eq (tgt := 21) hx hb dX3_owes_9 (by decide) (fun c_9 => absurd c_9 (by decide)) (fun c_9 => ?_)
  refine lv_aload_n hx hb dX3_owes_12 rfl (lv_at hl 0 rfl) ?_
  refine rget (C := RX3) (T := TX3) (N := 25) (ref := RX3) F in_X3_owes_X3 hH 0 rfl rfl 8 (by decide) (by decide +kernel) (fun _ h9 => h9) (v := .ref (q 8)) rfl dX3_owes_13 ?_
  refine lv_iload_n hx hb dX3_owes_16 rfl (lv_at hl 1 rfl) ?_
  refine riald F hH 8 (n := 8) (f := a 8) rfl i rfl (by omega) (by decide) dX3_owes_17 ?_
  refine lv_goto (tgt := 22) hx hb dX3_owes_18 (by decide) ?_
  exact retI F hr rfl (fun _ => 0) hH rfl (Nat.le_of_ble_eq_true rfl) (Nat.le_of_ble_eq_true rfl) dX3_owes_22

set_option maxHeartbeats 4000000 in
set_option maxRecDepth 100000 in
theorem c_X3_owes_0 (l : Launch) (G : Gx) (q : Nat → Nat) (f : Nat → Int32) (a : Nat → Nat → Int32) (n : Nat) (e0 : f 0 = nI n) (hn : n ≤ 8) (v : Int32) (h : v < 0 ∨ nI n ≤ v) : MI l yX3_owes wsX3_owes ({ frames := 1, cells := 0, slots := 0, locals := 21 } : Room) [.ref (q 0), .int v] G (mW G q f a) (fun u => mW G q (va_up f 24 1) a) 0 := by
  refine ofMI (cc := cX3_owes) (maxL := 2) (ret := (some .int)) (by decide) rfl (Nat.le_of_ble_eq_true rfl) (fun p e s m below meth c A ls F hr hnm hH hl => ?_)
  have F : Fx G p s m _ meth c cX3_owes 2 wsX3_owes RX3 A := F
  have hx := F.1.1
  have hb := F.1.2.1
  have hl : lv_has ls 2 [(0, .ref (q 0)), (1, .int v)] := hl
  refine lv_aload_n hx hb dX3_owes_0 rfl (lv_at hl 0 rfl) ?_
  refine lv_aload_n hx hb dX3_owes_1 rfl (lv_at hl 0 rfl) ?_
  refine lv_iload_n hx hb dX3_owes_2 rfl (lv_at hl 1 rfl) ?_
  refine callVI0 (rest := [.ref (q 0)]) F (c_X3_isWorker_0 l G q f a n e0 hn v h) gX3_owes_X3_isWorker rfl hdX3_isWorker ⟨Nat.le_of_ble_eq_true rfl, Nat.le_of_ble_eq_true rfl⟩ hH ⟨0, 3, _, _, rfl, rfl, rfl⟩ rfl hl.1 (Nat.le_of_ble_eq_true rfl) dX3_owes_3 ⟨Nat.le_of_ble_eq_true rfl, Nat.le_of_ble_eq_true rfl⟩ rfl (fun u H locs hH => ?_)
  have hH : HH G A s (mW G q f a) H locs := hH
  refine callVI0 (rest := []) F (c_X3_asks_0 l G q f a) gX3_owes_X3_asks rfl hdX3_asks ⟨Nat.le_of_ble_eq_true rfl, Nat.le_of_ble_eq_true rfl⟩ hH ⟨0, 3, _, _, rfl, rfl, rfl⟩ rfl hl.1 (Nat.le_of_ble_eq_true rfl) dX3_owes_6 ⟨Nat.le_of_ble_eq_true rfl, Nat.le_of_ble_eq_true rfl⟩ rfl (fun u H locs hH => ?_)
  have hH : HH G A s (mW G q (va_up f 24 1) a) H locs := hH
  refine lv_if_eq (tgt := 21) hx hb dX3_owes_9 (by decide) (fun c_9 => ?_) (fun c_9 => absurd rfl c_9)
  refine lv_iconst (v := 0) hx hb dX3_owes_21 (by decide) ?_
  exact retI F hr rfl (fun _ => 0) hH rfl (Nat.le_of_ble_eq_true rfl) (Nat.le_of_ble_eq_true rfl) dX3_owes_22

set_option maxHeartbeats 4000000 in
set_option maxRecDepth 100000 in
theorem c_X3_door_1 (l : Launch) (G : Gx) (q : Nat → Nat) (f : Nat → Int32) (a : Nat → Nat → Int32) (n : Nat) (e0 : f 0 = nI n) (hn : n ≤ 8) (i : Nat) (hi : i < n) (t : Nat) (e16 : f 16 = nI t) (ht : t ≤ 201) (j : Nat) (hj : j < t) (h : Int32) (h1 : 0 ≤ h) (h2 : h ≤ 80) (hk : a 23 j = 0) : MV l yX3_door wsX3_door ({ frames := 1, cells := 0, slots := 0, locals := 22 } : Room) [.ref (q 0), .int (nI i), .int (nI j), .int h] G (mW G q f a) (fun u => mW G q (va_up f 24 0) (va_up a 21 (upd (a 21) (201 * i + j) h))) := by
  refine ofMV (cc := cX3_door) (maxL := 4) (ret := none) (by decide) rfl (Nat.le_of_ble_eq_true rfl) (fun p e s m below meth c A ls F hr hnm hH hl => ?_)
  have F : Fx G p s m _ meth c cX3_door 4 wsX3_door RX3 A := F
  have hx := F.1.1
  have hb := F.1.2.1
  have hl : lv_has ls 4 [(0, .ref (q 0)), (1, .int (nI i)), (2, .int (nI j)), (3, .int h)] := hl
  refine lv_aload_n hx hb dX3_door_0 rfl (lv_at hl 0 rfl) ?_
  refine lv_aload_n hx hb dX3_door_1 rfl (lv_at hl 0 rfl) ?_
  refine lv_iload_n hx hb dX3_door_2 rfl (lv_at hl 1 rfl) ?_
  refine callVI0 (rest := [.ref (q 0)]) F (c_X3_isWorker_1 l G q f a n e0 hn i hi) gX3_door_X3_isWorker rfl hdX3_isWorker ⟨Nat.le_of_ble_eq_true rfl, Nat.le_of_ble_eq_true rfl⟩ hH ⟨0, 3, _, _, rfl, rfl, rfl⟩ rfl hl.1 (Nat.le_of_ble_eq_true rfl) dX3_door_3 ⟨Nat.le_of_ble_eq_true rfl, Nat.le_of_ble_eq_true rfl⟩ rfl (fun u H locs hH => ?_)
  have hH : HH G A s (mW G q f a) H locs := hH
  refine callVI0 (rest := []) F (c_X3_asks_1 l G q f a) gX3_door_X3_asks rfl hdX3_asks ⟨Nat.le_of_ble_eq_true rfl, Nat.le_of_ble_eq_true rfl⟩ hH ⟨0, 3, _, _, rfl, rfl, rfl⟩ rfl hl.1 (Nat.le_of_ble_eq_true rfl) dX3_door_6 ⟨Nat.le_of_ble_eq_true rfl, Nat.le_of_ble_eq_true rfl⟩ rfl (fun u H locs hH => ?_)
  have hH : HH G A s (mW G q (va_up f 24 0) a) H locs := hH
  refine lv_if_ne (tgt := 13) hx hb dX3_door_9 (by decide) (fun c_9 => ?_) (fun c_9 => absurd c_9 (by decide))
  refine lv_aload_n hx hb dX3_door_13 rfl (lv_at hl 0 rfl) ?_
  refine lv_iload_n hx hb dX3_door_14 rfl (lv_at hl 2 rfl) ?_
  refine callVI0 (rest := []) F (c_X3_isPast_1 l G q (va_up f 24 0) a t e16 ht j hj) gX3_door_X3_isPast rfl hdX3_isPast ⟨Nat.le_of_ble_eq_true rfl, Nat.le_of_ble_eq_true rfl⟩ hH ⟨0, 3, _, _, rfl, rfl, rfl⟩ rfl hl.1 (Nat.le_of_ble_eq_true rfl) dX3_door_15 ⟨Nat.le_of_ble_eq_true rfl, Nat.le_of_ble_eq_true rfl⟩ rfl (fun u H locs hH => ?_)
  have hH : HH G A s (mW G q (va_up f 24 0) a) H locs := hH
  refine lv_if_eq (tgt := 31) hx hb dX3_door_18 (by decide) (fun c_18 => absurd c_18 (by decide)) (fun c_18 => ?_)
  refine lv_iload_n hx hb dX3_door_21 rfl (lv_at hl 3 rfl) ?_
  refine lv_iconst (v := 0) hx hb dX3_door_22 (by decide) ?_
  refine lv_bipush (v := 80) hx hb dX3_door_23 (by decide) ?_
  refine callSI0 (rest := []) F (c_X3_in_1 l G _ h 0 80 h1 h2) gX3_door_X3_in rfl hdX3_in ⟨Nat.le_of_ble_eq_true rfl, Nat.le_of_ble_eq_true rfl⟩ hH rfl hl.1 (Nat.le_of_ble_eq_true rfl) dX3_door_25 ⟨Nat.le_of_ble_eq_true rfl, Nat.le_of_ble_eq_true rfl⟩ rfl (fun u H locs hH => ?_)
  have hH : HH G A s (mW G q (va_up f 24 0) a) H locs := hH
  refine lv_if_ne (tgt := 40) hx hb dX3_door_28 (by decide) (fun c_28 => ?_) (fun c_28 => absurd c_28 (by decide))
  refine lv_aload_n hx hb dX3_door_40 rfl (lv_at hl 0 rfl) ?_
  refine rget (C := RX3) (T := TX3) (N := 25) (ref := RX3) F in_X3_door_X3 hH 0 rfl rfl 23 (by decide) (by decide +kernel) (fun _ h9 => h9) (v := .ref (q 23)) rfl dX3_door_41 ?_
  refine lv_iload_n hx hb dX3_door_44 rfl (lv_at hl 2 rfl) ?_
  refine rzald F hH 19 (n := 201) (f := a 23) rfl j rfl (by omega) (by decide) dX3_door_45 ?_
  refine lv_if_eq (tgt := 58) hx hb dX3_door_46 (by decide) (fun c_46 => ?_) (fun c_46 => absurd hk c_46)
  refine lv_aload_n hx hb dX3_door_58 rfl (lv_at hl 0 rfl) ?_
  refine rget (C := RX3) (T := TX3) (N := 25) (ref := RX3) F in_X3_door_X3 hH 0 rfl rfl 21 (by decide) (by decide +kernel) (fun _ h9 => h9) (v := .ref (q 21)) rfl dX3_door_59 ?_
  refine lv_sipush (v := 201) hx hb dX3_door_62 (by decide) ?_
  refine lv_iload_n hx hb dX3_door_65 rfl (lv_at hl 1 rfl) ?_
  refine lv_imul hx hb dX3_door_66 ?_
  refine lv_iload_n hx hb dX3_door_67 rfl (lv_at hl 2 rfl) ?_
  refine lv_iadd hx hb dX3_door_68 ?_
  refine lv_iload_n hx hb dX3_door_69 rfl (lv_at hl 3 rfl) ?_
  refine riast F hH 17 (n := 1608) (f := a 21) rfl (201 * i + j) (ix201 i j) (by omega) (by decide) dX3_door_70 (fun H locs hH => ?_)
  have hH : HH G A s (mW G q (va_up f 24 0) (va_up a 21 (upd (a 21) (201 * i + j) h))) H locs := hH
  exact retV F hr (fun _ => 0) hH (Nat.le_of_ble_eq_true rfl) (Nat.le_of_ble_eq_true rfl) dX3_door_71

set_option maxHeartbeats 4000000 in
set_option maxRecDepth 100000 in
theorem c_X3_door_3 (l : Launch) (G : Gx) (q : Nat → Nat) (f : Nat → Int32) (a : Nat → Nat → Int32) (n : Nat) (e0 : f 0 = nI n) (hn : n ≤ 8) (i : Nat) (hi : i < n) (t : Nat) (e16 : f 16 = nI t) (ht : t ≤ 201) (j : Nat) (hj : j < t) (h : Int32) (h1 : 0 ≤ h) (h2 : h ≤ 80) (hk : ¬ a 23 j = 0) : MV l yX3_door wsX3_door ({ frames := 1, cells := 0, slots := 0, locals := 22 } : Room) [.ref (q 0), .int (nI i), .int (nI j), .int h] G (mW G q f a) (fun u => mW G q (va_up f 24 3) a) := by
  refine ofMV (cc := cX3_door) (maxL := 4) (ret := none) (by decide) rfl (Nat.le_of_ble_eq_true rfl) (fun p e s m below meth c A ls F hr hnm hH hl => ?_)
  have F : Fx G p s m _ meth c cX3_door 4 wsX3_door RX3 A := F
  have hx := F.1.1
  have hb := F.1.2.1
  have hl : lv_has ls 4 [(0, .ref (q 0)), (1, .int (nI i)), (2, .int (nI j)), (3, .int h)] := hl
  refine lv_aload_n hx hb dX3_door_0 rfl (lv_at hl 0 rfl) ?_
  refine lv_aload_n hx hb dX3_door_1 rfl (lv_at hl 0 rfl) ?_
  refine lv_iload_n hx hb dX3_door_2 rfl (lv_at hl 1 rfl) ?_
  refine callVI0 (rest := [.ref (q 0)]) F (c_X3_isWorker_1 l G q f a n e0 hn i hi) gX3_door_X3_isWorker rfl hdX3_isWorker ⟨Nat.le_of_ble_eq_true rfl, Nat.le_of_ble_eq_true rfl⟩ hH ⟨0, 3, _, _, rfl, rfl, rfl⟩ rfl hl.1 (Nat.le_of_ble_eq_true rfl) dX3_door_3 ⟨Nat.le_of_ble_eq_true rfl, Nat.le_of_ble_eq_true rfl⟩ rfl (fun u H locs hH => ?_)
  have hH : HH G A s (mW G q f a) H locs := hH
  refine callVI0 (rest := []) F (c_X3_asks_1 l G q f a) gX3_door_X3_asks rfl hdX3_asks ⟨Nat.le_of_ble_eq_true rfl, Nat.le_of_ble_eq_true rfl⟩ hH ⟨0, 3, _, _, rfl, rfl, rfl⟩ rfl hl.1 (Nat.le_of_ble_eq_true rfl) dX3_door_6 ⟨Nat.le_of_ble_eq_true rfl, Nat.le_of_ble_eq_true rfl⟩ rfl (fun u H locs hH => ?_)
  have hH : HH G A s (mW G q (va_up f 24 0) a) H locs := hH
  refine lv_if_ne (tgt := 13) hx hb dX3_door_9 (by decide) (fun c_9 => ?_) (fun c_9 => absurd c_9 (by decide))
  refine lv_aload_n hx hb dX3_door_13 rfl (lv_at hl 0 rfl) ?_
  refine lv_iload_n hx hb dX3_door_14 rfl (lv_at hl 2 rfl) ?_
  refine callVI0 (rest := []) F (c_X3_isPast_1 l G q (va_up f 24 0) a t e16 ht j hj) gX3_door_X3_isPast rfl hdX3_isPast ⟨Nat.le_of_ble_eq_true rfl, Nat.le_of_ble_eq_true rfl⟩ hH ⟨0, 3, _, _, rfl, rfl, rfl⟩ rfl hl.1 (Nat.le_of_ble_eq_true rfl) dX3_door_15 ⟨Nat.le_of_ble_eq_true rfl, Nat.le_of_ble_eq_true rfl⟩ rfl (fun u H locs hH => ?_)
  have hH : HH G A s (mW G q (va_up f 24 0) a) H locs := hH
  refine lv_if_eq (tgt := 31) hx hb dX3_door_18 (by decide) (fun c_18 => absurd c_18 (by decide)) (fun c_18 => ?_)
  refine lv_iload_n hx hb dX3_door_21 rfl (lv_at hl 3 rfl) ?_
  refine lv_iconst (v := 0) hx hb dX3_door_22 (by decide) ?_
  refine lv_bipush (v := 80) hx hb dX3_door_23 (by decide) ?_
  refine callSI0 (rest := []) F (c_X3_in_1 l G _ h 0 80 h1 h2) gX3_door_X3_in rfl hdX3_in ⟨Nat.le_of_ble_eq_true rfl, Nat.le_of_ble_eq_true rfl⟩ hH rfl hl.1 (Nat.le_of_ble_eq_true rfl) dX3_door_25 ⟨Nat.le_of_ble_eq_true rfl, Nat.le_of_ble_eq_true rfl⟩ rfl (fun u H locs hH => ?_)
  have hH : HH G A s (mW G q (va_up f 24 0) a) H locs := hH
  refine lv_if_ne (tgt := 40) hx hb dX3_door_28 (by decide) (fun c_28 => ?_) (fun c_28 => absurd c_28 (by decide))
  refine lv_aload_n hx hb dX3_door_40 rfl (lv_at hl 0 rfl) ?_
  refine rget (C := RX3) (T := TX3) (N := 25) (ref := RX3) F in_X3_door_X3 hH 0 rfl rfl 23 (by decide) (by decide +kernel) (fun _ h9 => h9) (v := .ref (q 23)) rfl dX3_door_41 ?_
  refine lv_iload_n hx hb dX3_door_44 rfl (lv_at hl 2 rfl) ?_
  refine rzald F hH 19 (n := 201) (f := a 23) rfl j rfl (by omega) (by decide) dX3_door_45 ?_
  refine lv_if_eq (tgt := 58) hx hb dX3_door_46 (by decide) (fun c_46 => absurd c_46 hk) (fun c_46 => ?_)
  refine lv_aload_n hx hb dX3_door_49 rfl (lv_at hl 0 rfl) ?_
  refine lv_iconst (v := 3) hx hb dX3_door_50 (by decide) ?_
  refine callVI0 (rest := []) F (c_X3_fails l G q (va_up f 24 0) a 3) gX3_door_X3_fails rfl hdX3_fails ⟨Nat.le_of_ble_eq_true rfl, Nat.le_of_ble_eq_true rfl⟩ hH ⟨0, 3, _, _, rfl, rfl, rfl⟩ rfl hl.1 (Nat.le_of_ble_eq_true rfl) dX3_door_51 ⟨Nat.le_of_ble_eq_true rfl, Nat.le_of_ble_eq_true rfl⟩ rfl (fun u H locs hH => ?_)
  have hH : HH G A s (mW G q (va_up f 24 3) a) H locs := hH
  refine lv_pop hx hb dX3_door_54 rfl ?_
  refine lv_goto (tgt := 71) hx hb dX3_door_55 (by decide) ?_
  exact retV F hr (fun _ => 0) hH (Nat.le_of_ble_eq_true rfl) (Nat.le_of_ble_eq_true rfl) dX3_door_71

set_option maxHeartbeats 4000000 in
set_option maxRecDepth 100000 in
theorem c_X3_door_2 (l : Launch) (G : Gx) (q : Nat → Nat) (f : Nat → Int32) (a : Nat → Nat → Int32) (n : Nat) (e0 : f 0 = nI n) (hn : n ≤ 8) (i : Nat) (hi : i < n) (t : Nat) (e16 : f 16 = nI t) (ht : t ≤ 201) (w x : Int32) (h : w < 0 ∨ nI t ≤ w) : MV l yX3_door wsX3_door ({ frames := 1, cells := 0, slots := 0, locals := 21 } : Room) [.ref (q 0), .int (nI i), .int w, .int x] G (mW G q f a) (fun u => mW G q (va_up f 24 2) a) := by
  refine ofMV (cc := cX3_door) (maxL := 4) (ret := none) (by decide) rfl (Nat.le_of_ble_eq_true rfl) (fun p e s m below meth c A ls F hr hnm hH hl => ?_)
  have F : Fx G p s m _ meth c cX3_door 4 wsX3_door RX3 A := F
  have hx := F.1.1
  have hb := F.1.2.1
  have hl : lv_has ls 4 [(0, .ref (q 0)), (1, .int (nI i)), (2, .int w), (3, .int x)] := hl
  refine lv_aload_n hx hb dX3_door_0 rfl (lv_at hl 0 rfl) ?_
  refine lv_aload_n hx hb dX3_door_1 rfl (lv_at hl 0 rfl) ?_
  refine lv_iload_n hx hb dX3_door_2 rfl (lv_at hl 1 rfl) ?_
  refine callVI0 (rest := [.ref (q 0)]) F (c_X3_isWorker_1 l G q f a n e0 hn i hi) gX3_door_X3_isWorker rfl hdX3_isWorker ⟨Nat.le_of_ble_eq_true rfl, Nat.le_of_ble_eq_true rfl⟩ hH ⟨0, 3, _, _, rfl, rfl, rfl⟩ rfl hl.1 (Nat.le_of_ble_eq_true rfl) dX3_door_3 ⟨Nat.le_of_ble_eq_true rfl, Nat.le_of_ble_eq_true rfl⟩ rfl (fun u H locs hH => ?_)
  have hH : HH G A s (mW G q f a) H locs := hH
  refine callVI0 (rest := []) F (c_X3_asks_1 l G q f a) gX3_door_X3_asks rfl hdX3_asks ⟨Nat.le_of_ble_eq_true rfl, Nat.le_of_ble_eq_true rfl⟩ hH ⟨0, 3, _, _, rfl, rfl, rfl⟩ rfl hl.1 (Nat.le_of_ble_eq_true rfl) dX3_door_6 ⟨Nat.le_of_ble_eq_true rfl, Nat.le_of_ble_eq_true rfl⟩ rfl (fun u H locs hH => ?_)
  have hH : HH G A s (mW G q (va_up f 24 0) a) H locs := hH
  refine lv_if_ne (tgt := 13) hx hb dX3_door_9 (by decide) (fun c_9 => ?_) (fun c_9 => absurd c_9 (by decide))
  refine lv_aload_n hx hb dX3_door_13 rfl (lv_at hl 0 rfl) ?_
  refine lv_iload_n hx hb dX3_door_14 rfl (lv_at hl 2 rfl) ?_
  refine callVI0 (rest := []) F (c_X3_isPast_0 l G q (va_up f 24 0) a t e16 ht w h) gX3_door_X3_isPast rfl hdX3_isPast ⟨Nat.le_of_ble_eq_true rfl, Nat.le_of_ble_eq_true rfl⟩ hH ⟨0, 3, _, _, rfl, rfl, rfl⟩ rfl hl.1 (Nat.le_of_ble_eq_true rfl) dX3_door_15 ⟨Nat.le_of_ble_eq_true rfl, Nat.le_of_ble_eq_true rfl⟩ rfl (fun u H locs hH => ?_)
  have hH : HH G A s (mW G q (va_up f 24 0) a) H locs := hH
  refine lv_if_eq (tgt := 31) hx hb dX3_door_18 (by decide) (fun c_18 => ?_) (fun c_18 => absurd rfl c_18)
  refine lv_aload_n hx hb dX3_door_31 rfl (lv_at hl 0 rfl) ?_
  refine lv_iconst (v := 2) hx hb dX3_door_32 (by decide) ?_
  refine callVI0 (rest := []) F (c_X3_fails l G q (va_up f 24 0) a 2) gX3_door_X3_fails rfl hdX3_fails ⟨Nat.le_of_ble_eq_true rfl, Nat.le_of_ble_eq_true rfl⟩ hH ⟨0, 3, _, _, rfl, rfl, rfl⟩ rfl hl.1 (Nat.le_of_ble_eq_true rfl) dX3_door_33 ⟨Nat.le_of_ble_eq_true rfl, Nat.le_of_ble_eq_true rfl⟩ rfl (fun u H locs hH => ?_)
  have hH : HH G A s (mW G q (va_up f 24 2) a) H locs := hH
  refine lv_pop hx hb dX3_door_36 rfl ?_
  refine lv_goto (tgt := 71) hx hb dX3_door_37 (by decide) ?_
  exact retV F hr (fun _ => 0) hH (Nat.le_of_ble_eq_true rfl) (Nat.le_of_ble_eq_true rfl) dX3_door_71

set_option maxHeartbeats 4000000 in
set_option maxRecDepth 100000 in
theorem c_X3_door_22 (l : Launch) (G : Gx) (q : Nat → Nat) (f : Nat → Int32) (a : Nat → Nat → Int32) (n : Nat) (e0 : f 0 = nI n) (hn : n ≤ 8) (i : Nat) (hi : i < n) (t : Nat) (e16 : f 16 = nI t) (ht : t ≤ 201) (j : Nat) (hj : j < t) (x : Int32) (h : x < 0 ∨ 80 < x) : MV l yX3_door wsX3_door ({ frames := 1, cells := 0, slots := 0, locals := 22 } : Room) [.ref (q 0), .int (nI i), .int (nI j), .int x] G (mW G q f a) (fun u => mW G q (va_up f 24 2) a) := by
  refine ofMV (cc := cX3_door) (maxL := 4) (ret := none) (by decide) rfl (Nat.le_of_ble_eq_true rfl) (fun p e s m below meth c A ls F hr hnm hH hl => ?_)
  have F : Fx G p s m _ meth c cX3_door 4 wsX3_door RX3 A := F
  have hx := F.1.1
  have hb := F.1.2.1
  have hl : lv_has ls 4 [(0, .ref (q 0)), (1, .int (nI i)), (2, .int (nI j)), (3, .int x)] := hl
  refine lv_aload_n hx hb dX3_door_0 rfl (lv_at hl 0 rfl) ?_
  refine lv_aload_n hx hb dX3_door_1 rfl (lv_at hl 0 rfl) ?_
  refine lv_iload_n hx hb dX3_door_2 rfl (lv_at hl 1 rfl) ?_
  refine callVI0 (rest := [.ref (q 0)]) F (c_X3_isWorker_1 l G q f a n e0 hn i hi) gX3_door_X3_isWorker rfl hdX3_isWorker ⟨Nat.le_of_ble_eq_true rfl, Nat.le_of_ble_eq_true rfl⟩ hH ⟨0, 3, _, _, rfl, rfl, rfl⟩ rfl hl.1 (Nat.le_of_ble_eq_true rfl) dX3_door_3 ⟨Nat.le_of_ble_eq_true rfl, Nat.le_of_ble_eq_true rfl⟩ rfl (fun u H locs hH => ?_)
  have hH : HH G A s (mW G q f a) H locs := hH
  refine callVI0 (rest := []) F (c_X3_asks_1 l G q f a) gX3_door_X3_asks rfl hdX3_asks ⟨Nat.le_of_ble_eq_true rfl, Nat.le_of_ble_eq_true rfl⟩ hH ⟨0, 3, _, _, rfl, rfl, rfl⟩ rfl hl.1 (Nat.le_of_ble_eq_true rfl) dX3_door_6 ⟨Nat.le_of_ble_eq_true rfl, Nat.le_of_ble_eq_true rfl⟩ rfl (fun u H locs hH => ?_)
  have hH : HH G A s (mW G q (va_up f 24 0) a) H locs := hH
  refine lv_if_ne (tgt := 13) hx hb dX3_door_9 (by decide) (fun c_9 => ?_) (fun c_9 => absurd c_9 (by decide))
  refine lv_aload_n hx hb dX3_door_13 rfl (lv_at hl 0 rfl) ?_
  refine lv_iload_n hx hb dX3_door_14 rfl (lv_at hl 2 rfl) ?_
  refine callVI0 (rest := []) F (c_X3_isPast_1 l G q (va_up f 24 0) a t e16 ht j hj) gX3_door_X3_isPast rfl hdX3_isPast ⟨Nat.le_of_ble_eq_true rfl, Nat.le_of_ble_eq_true rfl⟩ hH ⟨0, 3, _, _, rfl, rfl, rfl⟩ rfl hl.1 (Nat.le_of_ble_eq_true rfl) dX3_door_15 ⟨Nat.le_of_ble_eq_true rfl, Nat.le_of_ble_eq_true rfl⟩ rfl (fun u H locs hH => ?_)
  have hH : HH G A s (mW G q (va_up f 24 0) a) H locs := hH
  refine lv_if_eq (tgt := 31) hx hb dX3_door_18 (by decide) (fun c_18 => absurd c_18 (by decide)) (fun c_18 => ?_)
  refine lv_iload_n hx hb dX3_door_21 rfl (lv_at hl 3 rfl) ?_
  refine lv_iconst (v := 0) hx hb dX3_door_22 (by decide) ?_
  refine lv_bipush (v := 80) hx hb dX3_door_23 (by decide) ?_
  refine callSI0 (rest := []) F (c_X3_in_0 l G _ x 0 80 h) gX3_door_X3_in rfl hdX3_in ⟨Nat.le_of_ble_eq_true rfl, Nat.le_of_ble_eq_true rfl⟩ hH rfl hl.1 (Nat.le_of_ble_eq_true rfl) dX3_door_25 ⟨Nat.le_of_ble_eq_true rfl, Nat.le_of_ble_eq_true rfl⟩ rfl (fun u H locs hH => ?_)
  have hH : HH G A s (mW G q (va_up f 24 0) a) H locs := hH
  refine lv_if_ne (tgt := 40) hx hb dX3_door_28 (by decide) (fun c_28 => absurd rfl c_28) (fun c_28 => ?_)
  refine lv_aload_n hx hb dX3_door_31 rfl (lv_at hl 0 rfl) ?_
  refine lv_iconst (v := 2) hx hb dX3_door_32 (by decide) ?_
  refine callVI0 (rest := []) F (c_X3_fails l G q (va_up f 24 0) a 2) gX3_door_X3_fails rfl hdX3_fails ⟨Nat.le_of_ble_eq_true rfl, Nat.le_of_ble_eq_true rfl⟩ hH ⟨0, 3, _, _, rfl, rfl, rfl⟩ rfl hl.1 (Nat.le_of_ble_eq_true rfl) dX3_door_33 ⟨Nat.le_of_ble_eq_true rfl, Nat.le_of_ble_eq_true rfl⟩ rfl (fun u H locs hH => ?_)
  have hH : HH G A s (mW G q (va_up f 24 2) a) H locs := hH
  refine lv_pop hx hb dX3_door_36 rfl ?_
  refine lv_goto (tgt := 71) hx hb dX3_door_37 (by decide) ?_
  exact retV F hr (fun _ => 0) hH (Nat.le_of_ble_eq_true rfl) (Nat.le_of_ble_eq_true rfl) dX3_door_71

set_option maxHeartbeats 4000000 in
set_option maxRecDepth 100000 in
theorem c_X3_door_0 (l : Launch) (G : Gx) (q : Nat → Nat) (f : Nat → Int32) (a : Nat → Nat → Int32) (n : Nat) (e0 : f 0 = nI n) (hn : n ≤ 8) (v : Int32) (h : v < 0 ∨ nI n ≤ v) (w x : Int32) : MV l yX3_door wsX3_door ({ frames := 1, cells := 0, slots := 0, locals := 21 } : Room) [.ref (q 0), .int v, .int w, .int x] G (mW G q f a) (fun u => mW G q (va_up f 24 1) a) := by
  refine ofMV (cc := cX3_door) (maxL := 4) (ret := none) (by decide) rfl (Nat.le_of_ble_eq_true rfl) (fun p e s m below meth c A ls F hr hnm hH hl => ?_)
  have F : Fx G p s m _ meth c cX3_door 4 wsX3_door RX3 A := F
  have hx := F.1.1
  have hb := F.1.2.1
  have hl : lv_has ls 4 [(0, .ref (q 0)), (1, .int v), (2, .int w), (3, .int x)] := hl
  refine lv_aload_n hx hb dX3_door_0 rfl (lv_at hl 0 rfl) ?_
  refine lv_aload_n hx hb dX3_door_1 rfl (lv_at hl 0 rfl) ?_
  refine lv_iload_n hx hb dX3_door_2 rfl (lv_at hl 1 rfl) ?_
  refine callVI0 (rest := [.ref (q 0)]) F (c_X3_isWorker_0 l G q f a n e0 hn v h) gX3_door_X3_isWorker rfl hdX3_isWorker ⟨Nat.le_of_ble_eq_true rfl, Nat.le_of_ble_eq_true rfl⟩ hH ⟨0, 3, _, _, rfl, rfl, rfl⟩ rfl hl.1 (Nat.le_of_ble_eq_true rfl) dX3_door_3 ⟨Nat.le_of_ble_eq_true rfl, Nat.le_of_ble_eq_true rfl⟩ rfl (fun u H locs hH => ?_)
  have hH : HH G A s (mW G q f a) H locs := hH
  refine callVI0 (rest := []) F (c_X3_asks_0 l G q f a) gX3_door_X3_asks rfl hdX3_asks ⟨Nat.le_of_ble_eq_true rfl, Nat.le_of_ble_eq_true rfl⟩ hH ⟨0, 3, _, _, rfl, rfl, rfl⟩ rfl hl.1 (Nat.le_of_ble_eq_true rfl) dX3_door_6 ⟨Nat.le_of_ble_eq_true rfl, Nat.le_of_ble_eq_true rfl⟩ rfl (fun u H locs hH => ?_)
  have hH : HH G A s (mW G q (va_up f 24 1) a) H locs := hH
  refine lv_if_ne (tgt := 13) hx hb dX3_door_9 (by decide) (fun c_9 => absurd rfl c_9) (fun c_9 => ?_)
  exact retV F hr (fun _ => 0) hH (Nat.le_of_ble_eq_true rfl) (Nat.le_of_ble_eq_true rfl) dX3_door_12

set_option maxHeartbeats 4000000 in
set_option maxRecDepth 100000 in
theorem c_X3_mail_1 (l : Launch) (G : Gx) (q : Nat → Nat) (f : Nat → Int32) (a : Nat → Nat → Int32) (n : Nat) (e0 : f 0 = nI n) (hn : n ≤ 8) (i : Nat) (hi : i < n) (t : Nat) (e16 : f 16 = nI t) (ht : t ≤ 201) (j : Nat) (hj : j < t) (hk : a 23 j = 0) : MV l yX3_mail wsX3_mail ({ frames := 1, cells := 0, slots := 0, locals := 21 } : Room) [.ref (q 0), .int (nI i), .int (nI j)] G (mW G q f a) (fun u => mW G q (va_up f 24 0) (va_up a 22 (upd (a 22) (201 * i + j) 1))) := by
  refine ofMV (cc := cX3_mail) (maxL := 3) (ret := none) (by decide) rfl (Nat.le_of_ble_eq_true rfl) (fun p e s m below meth c A ls F hr hnm hH hl => ?_)
  have F : Fx G p s m _ meth c cX3_mail 3 wsX3_mail RX3 A := F
  have hx := F.1.1
  have hb := F.1.2.1
  have hl : lv_has ls 3 [(0, .ref (q 0)), (1, .int (nI i)), (2, .int (nI j))] := hl
  refine lv_aload_n hx hb dX3_mail_0 rfl (lv_at hl 0 rfl) ?_
  refine lv_aload_n hx hb dX3_mail_1 rfl (lv_at hl 0 rfl) ?_
  refine lv_iload_n hx hb dX3_mail_2 rfl (lv_at hl 1 rfl) ?_
  refine callVI0 (rest := [.ref (q 0)]) F (c_X3_isWorker_1 l G q f a n e0 hn i hi) gX3_mail_X3_isWorker rfl hdX3_isWorker ⟨Nat.le_of_ble_eq_true rfl, Nat.le_of_ble_eq_true rfl⟩ hH ⟨0, 3, _, _, rfl, rfl, rfl⟩ rfl hl.1 (Nat.le_of_ble_eq_true rfl) dX3_mail_3 ⟨Nat.le_of_ble_eq_true rfl, Nat.le_of_ble_eq_true rfl⟩ rfl (fun u H locs hH => ?_)
  have hH : HH G A s (mW G q f a) H locs := hH
  refine callVI0 (rest := []) F (c_X3_asks_1 l G q f a) gX3_mail_X3_asks rfl hdX3_asks ⟨Nat.le_of_ble_eq_true rfl, Nat.le_of_ble_eq_true rfl⟩ hH ⟨0, 3, _, _, rfl, rfl, rfl⟩ rfl hl.1 (Nat.le_of_ble_eq_true rfl) dX3_mail_6 ⟨Nat.le_of_ble_eq_true rfl, Nat.le_of_ble_eq_true rfl⟩ rfl (fun u H locs hH => ?_)
  have hH : HH G A s (mW G q (va_up f 24 0) a) H locs := hH
  refine lv_if_ne (tgt := 13) hx hb dX3_mail_9 (by decide) (fun c_9 => ?_) (fun c_9 => absurd c_9 (by decide))
  refine lv_aload_n hx hb dX3_mail_13 rfl (lv_at hl 0 rfl) ?_
  refine lv_iload_n hx hb dX3_mail_14 rfl (lv_at hl 2 rfl) ?_
  refine callVI0 (rest := []) F (c_X3_isPast_1 l G q (va_up f 24 0) a t e16 ht j hj) gX3_mail_X3_isPast rfl hdX3_isPast ⟨Nat.le_of_ble_eq_true rfl, Nat.le_of_ble_eq_true rfl⟩ hH ⟨0, 3, _, _, rfl, rfl, rfl⟩ rfl hl.1 (Nat.le_of_ble_eq_true rfl) dX3_mail_15 ⟨Nat.le_of_ble_eq_true rfl, Nat.le_of_ble_eq_true rfl⟩ rfl (fun u H locs hH => ?_)
  have hH : HH G A s (mW G q (va_up f 24 0) a) H locs := hH
  refine lv_if_ne (tgt := 30) hx hb dX3_mail_18 (by decide) (fun c_18 => ?_) (fun c_18 => absurd c_18 (by decide))
  refine lv_aload_n hx hb dX3_mail_30 rfl (lv_at hl 0 rfl) ?_
  refine rget (C := RX3) (T := TX3) (N := 25) (ref := RX3) F in_X3_mail_X3 hH 0 rfl rfl 23 (by decide) (by decide +kernel) (fun _ h9 => h9) (v := .ref (q 23)) rfl dX3_mail_31 ?_
  refine lv_iload_n hx hb dX3_mail_34 rfl (lv_at hl 2 rfl) ?_
  refine rzald F hH 19 (n := 201) (f := a 23) rfl j rfl (by omega) (by decide) dX3_mail_35 ?_
  refine lv_if_eq (tgt := 48) hx hb dX3_mail_36 (by decide) (fun c_36 => ?_) (fun c_36 => absurd hk c_36)
  refine lv_aload_n hx hb dX3_mail_48 rfl (lv_at hl 0 rfl) ?_
  refine rget (C := RX3) (T := TX3) (N := 25) (ref := RX3) F in_X3_mail_X3 hH 0 rfl rfl 22 (by decide) (by decide +kernel) (fun _ h9 => h9) (v := .ref (q 22)) rfl dX3_mail_49 ?_
  refine lv_sipush (v := 201) hx hb dX3_mail_52 (by decide) ?_
  refine lv_iload_n hx hb dX3_mail_55 rfl (lv_at hl 1 rfl) ?_
  refine lv_imul hx hb dX3_mail_56 ?_
  refine lv_iload_n hx hb dX3_mail_57 rfl (lv_at hl 2 rfl) ?_
  refine lv_iadd hx hb dX3_mail_58 ?_
  refine lv_iconst (v := 1) hx hb dX3_mail_59 (by decide) ?_
  refine rzast F hH 18 (n := 1608) (f := a 22) rfl (201 * i + j) (ix201 i j) (by omega) (by decide) rfl dX3_mail_60 (fun H locs hH => ?_)
  have hH : HH G A s (mW G q (va_up f 24 0) (va_up a 22 (upd (a 22) (201 * i + j) 1))) H locs := hH
  exact retV F hr (fun _ => 0) hH (Nat.le_of_ble_eq_true rfl) (Nat.le_of_ble_eq_true rfl) dX3_mail_61

set_option maxHeartbeats 4000000 in
set_option maxRecDepth 100000 in
theorem c_X3_mail_3 (l : Launch) (G : Gx) (q : Nat → Nat) (f : Nat → Int32) (a : Nat → Nat → Int32) (n : Nat) (e0 : f 0 = nI n) (hn : n ≤ 8) (i : Nat) (hi : i < n) (t : Nat) (e16 : f 16 = nI t) (ht : t ≤ 201) (j : Nat) (hj : j < t) (hk : ¬ a 23 j = 0) : MV l yX3_mail wsX3_mail ({ frames := 1, cells := 0, slots := 0, locals := 21 } : Room) [.ref (q 0), .int (nI i), .int (nI j)] G (mW G q f a) (fun u => mW G q (va_up f 24 3) a) := by
  refine ofMV (cc := cX3_mail) (maxL := 3) (ret := none) (by decide) rfl (Nat.le_of_ble_eq_true rfl) (fun p e s m below meth c A ls F hr hnm hH hl => ?_)
  have F : Fx G p s m _ meth c cX3_mail 3 wsX3_mail RX3 A := F
  have hx := F.1.1
  have hb := F.1.2.1
  have hl : lv_has ls 3 [(0, .ref (q 0)), (1, .int (nI i)), (2, .int (nI j))] := hl
  refine lv_aload_n hx hb dX3_mail_0 rfl (lv_at hl 0 rfl) ?_
  refine lv_aload_n hx hb dX3_mail_1 rfl (lv_at hl 0 rfl) ?_
  refine lv_iload_n hx hb dX3_mail_2 rfl (lv_at hl 1 rfl) ?_
  refine callVI0 (rest := [.ref (q 0)]) F (c_X3_isWorker_1 l G q f a n e0 hn i hi) gX3_mail_X3_isWorker rfl hdX3_isWorker ⟨Nat.le_of_ble_eq_true rfl, Nat.le_of_ble_eq_true rfl⟩ hH ⟨0, 3, _, _, rfl, rfl, rfl⟩ rfl hl.1 (Nat.le_of_ble_eq_true rfl) dX3_mail_3 ⟨Nat.le_of_ble_eq_true rfl, Nat.le_of_ble_eq_true rfl⟩ rfl (fun u H locs hH => ?_)
  have hH : HH G A s (mW G q f a) H locs := hH
  refine callVI0 (rest := []) F (c_X3_asks_1 l G q f a) gX3_mail_X3_asks rfl hdX3_asks ⟨Nat.le_of_ble_eq_true rfl, Nat.le_of_ble_eq_true rfl⟩ hH ⟨0, 3, _, _, rfl, rfl, rfl⟩ rfl hl.1 (Nat.le_of_ble_eq_true rfl) dX3_mail_6 ⟨Nat.le_of_ble_eq_true rfl, Nat.le_of_ble_eq_true rfl⟩ rfl (fun u H locs hH => ?_)
  have hH : HH G A s (mW G q (va_up f 24 0) a) H locs := hH
  refine lv_if_ne (tgt := 13) hx hb dX3_mail_9 (by decide) (fun c_9 => ?_) (fun c_9 => absurd c_9 (by decide))
  refine lv_aload_n hx hb dX3_mail_13 rfl (lv_at hl 0 rfl) ?_
  refine lv_iload_n hx hb dX3_mail_14 rfl (lv_at hl 2 rfl) ?_
  refine callVI0 (rest := []) F (c_X3_isPast_1 l G q (va_up f 24 0) a t e16 ht j hj) gX3_mail_X3_isPast rfl hdX3_isPast ⟨Nat.le_of_ble_eq_true rfl, Nat.le_of_ble_eq_true rfl⟩ hH ⟨0, 3, _, _, rfl, rfl, rfl⟩ rfl hl.1 (Nat.le_of_ble_eq_true rfl) dX3_mail_15 ⟨Nat.le_of_ble_eq_true rfl, Nat.le_of_ble_eq_true rfl⟩ rfl (fun u H locs hH => ?_)
  have hH : HH G A s (mW G q (va_up f 24 0) a) H locs := hH
  refine lv_if_ne (tgt := 30) hx hb dX3_mail_18 (by decide) (fun c_18 => ?_) (fun c_18 => absurd c_18 (by decide))
  refine lv_aload_n hx hb dX3_mail_30 rfl (lv_at hl 0 rfl) ?_
  refine rget (C := RX3) (T := TX3) (N := 25) (ref := RX3) F in_X3_mail_X3 hH 0 rfl rfl 23 (by decide) (by decide +kernel) (fun _ h9 => h9) (v := .ref (q 23)) rfl dX3_mail_31 ?_
  refine lv_iload_n hx hb dX3_mail_34 rfl (lv_at hl 2 rfl) ?_
  refine rzald F hH 19 (n := 201) (f := a 23) rfl j rfl (by omega) (by decide) dX3_mail_35 ?_
  refine lv_if_eq (tgt := 48) hx hb dX3_mail_36 (by decide) (fun c_36 => absurd c_36 hk) (fun c_36 => ?_)
  refine lv_aload_n hx hb dX3_mail_39 rfl (lv_at hl 0 rfl) ?_
  refine lv_iconst (v := 3) hx hb dX3_mail_40 (by decide) ?_
  refine callVI0 (rest := []) F (c_X3_fails l G q (va_up f 24 0) a 3) gX3_mail_X3_fails rfl hdX3_fails ⟨Nat.le_of_ble_eq_true rfl, Nat.le_of_ble_eq_true rfl⟩ hH ⟨0, 3, _, _, rfl, rfl, rfl⟩ rfl hl.1 (Nat.le_of_ble_eq_true rfl) dX3_mail_41 ⟨Nat.le_of_ble_eq_true rfl, Nat.le_of_ble_eq_true rfl⟩ rfl (fun u H locs hH => ?_)
  have hH : HH G A s (mW G q (va_up f 24 3) a) H locs := hH
  refine lv_pop hx hb dX3_mail_44 rfl ?_
  refine lv_goto (tgt := 61) hx hb dX3_mail_45 (by decide) ?_
  exact retV F hr (fun _ => 0) hH (Nat.le_of_ble_eq_true rfl) (Nat.le_of_ble_eq_true rfl) dX3_mail_61

set_option maxHeartbeats 4000000 in
set_option maxRecDepth 100000 in
theorem c_X3_mail_2 (l : Launch) (G : Gx) (q : Nat → Nat) (f : Nat → Int32) (a : Nat → Nat → Int32) (n : Nat) (e0 : f 0 = nI n) (hn : n ≤ 8) (i : Nat) (hi : i < n) (t : Nat) (e16 : f 16 = nI t) (ht : t ≤ 201) (w : Int32) (h : w < 0 ∨ nI t ≤ w) : MV l yX3_mail wsX3_mail ({ frames := 1, cells := 0, slots := 0, locals := 21 } : Room) [.ref (q 0), .int (nI i), .int w] G (mW G q f a) (fun u => mW G q (va_up f 24 2) a) := by
  refine ofMV (cc := cX3_mail) (maxL := 3) (ret := none) (by decide) rfl (Nat.le_of_ble_eq_true rfl) (fun p e s m below meth c A ls F hr hnm hH hl => ?_)
  have F : Fx G p s m _ meth c cX3_mail 3 wsX3_mail RX3 A := F
  have hx := F.1.1
  have hb := F.1.2.1
  have hl : lv_has ls 3 [(0, .ref (q 0)), (1, .int (nI i)), (2, .int w)] := hl
  refine lv_aload_n hx hb dX3_mail_0 rfl (lv_at hl 0 rfl) ?_
  refine lv_aload_n hx hb dX3_mail_1 rfl (lv_at hl 0 rfl) ?_
  refine lv_iload_n hx hb dX3_mail_2 rfl (lv_at hl 1 rfl) ?_
  refine callVI0 (rest := [.ref (q 0)]) F (c_X3_isWorker_1 l G q f a n e0 hn i hi) gX3_mail_X3_isWorker rfl hdX3_isWorker ⟨Nat.le_of_ble_eq_true rfl, Nat.le_of_ble_eq_true rfl⟩ hH ⟨0, 3, _, _, rfl, rfl, rfl⟩ rfl hl.1 (Nat.le_of_ble_eq_true rfl) dX3_mail_3 ⟨Nat.le_of_ble_eq_true rfl, Nat.le_of_ble_eq_true rfl⟩ rfl (fun u H locs hH => ?_)
  have hH : HH G A s (mW G q f a) H locs := hH
  refine callVI0 (rest := []) F (c_X3_asks_1 l G q f a) gX3_mail_X3_asks rfl hdX3_asks ⟨Nat.le_of_ble_eq_true rfl, Nat.le_of_ble_eq_true rfl⟩ hH ⟨0, 3, _, _, rfl, rfl, rfl⟩ rfl hl.1 (Nat.le_of_ble_eq_true rfl) dX3_mail_6 ⟨Nat.le_of_ble_eq_true rfl, Nat.le_of_ble_eq_true rfl⟩ rfl (fun u H locs hH => ?_)
  have hH : HH G A s (mW G q (va_up f 24 0) a) H locs := hH
  refine lv_if_ne (tgt := 13) hx hb dX3_mail_9 (by decide) (fun c_9 => ?_) (fun c_9 => absurd c_9 (by decide))
  refine lv_aload_n hx hb dX3_mail_13 rfl (lv_at hl 0 rfl) ?_
  refine lv_iload_n hx hb dX3_mail_14 rfl (lv_at hl 2 rfl) ?_
  refine callVI0 (rest := []) F (c_X3_isPast_0 l G q (va_up f 24 0) a t e16 ht w h) gX3_mail_X3_isPast rfl hdX3_isPast ⟨Nat.le_of_ble_eq_true rfl, Nat.le_of_ble_eq_true rfl⟩ hH ⟨0, 3, _, _, rfl, rfl, rfl⟩ rfl hl.1 (Nat.le_of_ble_eq_true rfl) dX3_mail_15 ⟨Nat.le_of_ble_eq_true rfl, Nat.le_of_ble_eq_true rfl⟩ rfl (fun u H locs hH => ?_)
  have hH : HH G A s (mW G q (va_up f 24 0) a) H locs := hH
  refine lv_if_ne (tgt := 30) hx hb dX3_mail_18 (by decide) (fun c_18 => absurd rfl c_18) (fun c_18 => ?_)
  refine lv_aload_n hx hb dX3_mail_21 rfl (lv_at hl 0 rfl) ?_
  refine lv_iconst (v := 2) hx hb dX3_mail_22 (by decide) ?_
  refine callVI0 (rest := []) F (c_X3_fails l G q (va_up f 24 0) a 2) gX3_mail_X3_fails rfl hdX3_fails ⟨Nat.le_of_ble_eq_true rfl, Nat.le_of_ble_eq_true rfl⟩ hH ⟨0, 3, _, _, rfl, rfl, rfl⟩ rfl hl.1 (Nat.le_of_ble_eq_true rfl) dX3_mail_23 ⟨Nat.le_of_ble_eq_true rfl, Nat.le_of_ble_eq_true rfl⟩ rfl (fun u H locs hH => ?_)
  have hH : HH G A s (mW G q (va_up f 24 2) a) H locs := hH
  refine lv_pop hx hb dX3_mail_26 rfl ?_
  refine lv_goto (tgt := 61) hx hb dX3_mail_27 (by decide) ?_
  exact retV F hr (fun _ => 0) hH (Nat.le_of_ble_eq_true rfl) (Nat.le_of_ble_eq_true rfl) dX3_mail_61

set_option maxHeartbeats 4000000 in
set_option maxRecDepth 100000 in
theorem c_X3_mail_0 (l : Launch) (G : Gx) (q : Nat → Nat) (f : Nat → Int32) (a : Nat → Nat → Int32) (n : Nat) (e0 : f 0 = nI n) (hn : n ≤ 8) (v : Int32) (h : v < 0 ∨ nI n ≤ v) (w : Int32) : MV l yX3_mail wsX3_mail ({ frames := 1, cells := 0, slots := 0, locals := 21 } : Room) [.ref (q 0), .int v, .int w] G (mW G q f a) (fun u => mW G q (va_up f 24 1) a) := by
  refine ofMV (cc := cX3_mail) (maxL := 3) (ret := none) (by decide) rfl (Nat.le_of_ble_eq_true rfl) (fun p e s m below meth c A ls F hr hnm hH hl => ?_)
  have F : Fx G p s m _ meth c cX3_mail 3 wsX3_mail RX3 A := F
  have hx := F.1.1
  have hb := F.1.2.1
  have hl : lv_has ls 3 [(0, .ref (q 0)), (1, .int v), (2, .int w)] := hl
  refine lv_aload_n hx hb dX3_mail_0 rfl (lv_at hl 0 rfl) ?_
  refine lv_aload_n hx hb dX3_mail_1 rfl (lv_at hl 0 rfl) ?_
  refine lv_iload_n hx hb dX3_mail_2 rfl (lv_at hl 1 rfl) ?_
  refine callVI0 (rest := [.ref (q 0)]) F (c_X3_isWorker_0 l G q f a n e0 hn v h) gX3_mail_X3_isWorker rfl hdX3_isWorker ⟨Nat.le_of_ble_eq_true rfl, Nat.le_of_ble_eq_true rfl⟩ hH ⟨0, 3, _, _, rfl, rfl, rfl⟩ rfl hl.1 (Nat.le_of_ble_eq_true rfl) dX3_mail_3 ⟨Nat.le_of_ble_eq_true rfl, Nat.le_of_ble_eq_true rfl⟩ rfl (fun u H locs hH => ?_)
  have hH : HH G A s (mW G q f a) H locs := hH
  refine callVI0 (rest := []) F (c_X3_asks_0 l G q f a) gX3_mail_X3_asks rfl hdX3_asks ⟨Nat.le_of_ble_eq_true rfl, Nat.le_of_ble_eq_true rfl⟩ hH ⟨0, 3, _, _, rfl, rfl, rfl⟩ rfl hl.1 (Nat.le_of_ble_eq_true rfl) dX3_mail_6 ⟨Nat.le_of_ble_eq_true rfl, Nat.le_of_ble_eq_true rfl⟩ rfl (fun u H locs hH => ?_)
  have hH : HH G A s (mW G q (va_up f 24 1) a) H locs := hH
  refine lv_if_ne (tgt := 13) hx hb dX3_mail_9 (by decide) (fun c_9 => absurd rfl c_9) (fun c_9 => ?_)
  exact retV F hr (fun _ => 0) hH (Nat.le_of_ble_eq_true rfl) (Nat.le_of_ble_eq_true rfl) dX3_mail_12
