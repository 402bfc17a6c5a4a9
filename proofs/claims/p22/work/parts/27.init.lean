set_option maxHeartbeats 4000000 in
set_option maxRecDepth 100000 in
theorem c_X0_init (l : Launch) (G : Gx) (h0 : Nat) (w x y z : Int32) : MV l yX0_init wsX0_init ({ frames := 1, cells := 0, slots := 0, locals := 20 } : Room) [.ref h0, .int w, .int x, .int y, .int z] G ([(h0, .inr (0, [.int 0, .int 0, .int 0, .int 0]))]) (fun u => cC h0 (va_up (va_up (va_up (va_up (fun _ => 0) 0 x) 1 y) 2 z) 3 w)) := by
  refine ofMV (cc := cX0_init) (maxL := 5) (ret := none) (by decide) rfl (Nat.le_of_ble_eq_true rfl) (fun p e s m below meth c A ls F hr hnm hH hl => ?_)
  have F : Fx G p s m _ meth c cX0_init 5 wsX0_init RX0 A := F
  have hx := F.1.1
  have hb := F.1.2.1
  have hl : lv_has ls 5 [(0, .ref h0), (1, .int w), (2, .int x), (3, .int y), (4, .int z)] := hl
  refine lv_aload_n hx hb dX0_init_0 rfl (lv_at hl 0 rfl) ?_
  refine W.objInit hx hb F.1.2.2.2.1 (F.1.2.2.2.2 (.methodLink RX0 1 objectInit) (by decide +kernel)) (F.1.2.2.2.2 (.instanceMethod objectInit) (by decide +kernel)) (F.1.2.2.2.2 (.code objectInit ⟨#[0xb1]⟩ 1 none) (by decide +kernel)) rfl (by rw [F.1.2.2.1]; exact hl.1) rfl dX0_init_1 (Nat.le_of_ble_eq_true rfl) (Nat.le_of_ble_eq_true rfl) ?_
  refine W.eq (g2 := F0 m 4 ls []) rfl ?_
  refine lv_aload_n hx hb dX0_init_4 rfl (lv_at hl 0 rfl) ?_
  refine lv_iload_n hx hb dX0_init_5 rfl (lv_at hl 2 rfl) ?_
  refine rputF (C := RX0) (T := TX0) (N := 4) (ref := RX0) F in_X0_init_X0 tyX0 tyX0_ok nmX0 hH 0 rfl rfl 0 (by decide) (by decide +kernel) (fun _ h9 => h9) rfl hnm rfl (v := .int x) rfl rfl (Nat.le_of_ble_eq_true rfl) dX0_init_6 (fun H locs hH => ?_)
  have hH : HH G A s [(h0, .inr (0, [.int x, .int 0, .int 0, .int 0]))] H locs := hH
  refine lv_aload_n hx hb dX0_init_9 rfl (lv_at hl 0 rfl) ?_
  refine lv_iload_n hx hb dX0_init_10 rfl (lv_at hl 3 rfl) ?_
  refine rputF (C := RX0) (T := TX0) (N := 4) (ref := RX0) F in_X0_init_X0 tyX0 tyX0_ok nmX0 hH 0 rfl rfl 1 (by decide) (by decide +kernel) (fun _ h9 => h9) rfl hnm rfl (v := .int y) rfl rfl (Nat.le_of_ble_eq_true rfl) dX0_init_11 (fun H locs hH => ?_)
  have hH : HH G A s [(h0, .inr (0, [.int x, .int y, .int 0, .int 0]))] H locs := hH
  refine lv_aload_n hx hb dX0_init_14 rfl (lv_at hl 0 rfl) ?_
  refine lv_iload hx hb dX0_init_15 (lv_at hl 4 rfl) ?_
  refine rputF (C := RX0) (T := TX0) (N := 4) (ref := RX0) F in_X0_init_X0 tyX0 tyX0_ok nmX0 hH 0 rfl rfl 2 (by decide) (by decide +kernel) (fun _ h9 => h9) rfl hnm rfl (v := .int z) rfl rfl (Nat.le_of_ble_eq_true rfl) dX0_init_17 (fun H locs hH => ?_)
  have hH : HH G A s [(h0, .inr (0, [.int x, .int y, .int z, .int 0]))] H locs := hH
  refine lv_aload_n hx hb dX0_init_20 rfl (lv_at hl 0 rfl) ?_
  refine lv_iload_n hx hb dX0_init_21 rfl (lv_at hl 1 rfl) ?_
  refine rput (C := RX0) (T := TX0) (N := 4) (ref := RX0) F in_X0_init_X0 tyX0 tyX0_ok nmX0 hH 0 rfl rfl 3 (by decide) (by decide +kernel) (fun _ h9 => h9) rfl (v := .int w) rfl rfl (Nat.le_of_ble_eq_true rfl) dX0_init_22 (fun H locs hH => ?_)
  have hH : HH G A s [(h0, .inr (0, [.int x, .int y, .int z, .int w]))] H locs := hH
  exact retV F hr (fun _ => 0) hH (Nat.le_of_ble_eq_true rfl) (Nat.le_of_ble_eq_true rfl) dX0_init_25

set_option maxHeartbeats 4000000 in
set_option maxRecDepth 100000 in
theorem c_X1_init (l : Launch) (G : Gx) (h0 : Nat) (v w : Int32) (hw : w = 0 ∨ w = 1) : MV l yX1_init wsX1_init ({ frames := 1, cells := 6, slots := 1206, locals := 20 } : Room) [.ref h0, .int v, .int w] G ([(h0, .inr (1, [.int 0, .int 0, .null, .null, .null, .null, .null, .null, .int 0, .int 0, .int 0, .int 0]))]) (fun u => wW G (va_up u 0 h0) (va_up (va_up (fun _ => 0) 0 v) 1 w) (fun _ _ => 0)) := by
  refine ofMV (cc := cX1_init) (maxL := 3) (ret := none) (by decide) rfl (Nat.le_of_ble_eq_true rfl) (fun p e s m below meth c A ls F hr hnm hH hl => ?_)
  have F : Fx G p s m _ meth c cX1_init 3 wsX1_init RX1 A := F
  have hx := F.1.1
  have hb := F.1.2.1
  have hl : lv_has ls 3 [(0, .ref h0), (1, .int v), (2, .int w)] := hl
  refine lv_aload_n hx hb dX1_init_0 rfl (lv_at hl 0 rfl) ?_
  refine W.objInit hx hb F.1.2.2.2.1 (F.1.2.2.2.2 (.methodLink RX1 3 objectInit) (by decide +kernel)) (F.1.2.2.2.2 (.instanceMethod objectInit) (by decide +kernel)) (F.1.2.2.2.2 (.code objectInit ⟨#[0xb1]⟩ 1 none) (by decide +kernel)) rfl (by rw [F.1.2.2.1]; exact hl.1) rfl dX1_init_1 (Nat.le_of_ble_eq_true rfl) (Nat.le_of_ble_eq_true rfl) ?_
  refine W.eq (g2 := F0 m 4 ls []) rfl ?_
  refine lv_aload_n hx hb dX1_init_4 rfl (lv_at hl 0 rfl) ?_
  refine lv_iload_n hx hb dX1_init_5 rfl (lv_at hl 1 rfl) ?_
  refine rputF (C := RX1) (T := TX1) (N := 12) (ref := RX1) F in_X1_init_X1 tyX1 tyX1_ok nmX1 hH 0 rfl rfl 0 (by decide) (by decide +kernel) (fun _ h9 => h9) rfl hnm rfl (v := .int v) rfl rfl (Nat.le_of_ble_eq_true rfl) dX1_init_6 (fun H locs hH => ?_)
  have hH : HH G A s [(h0, .inr (1, [.int v, .int 0, .null, .null, .null, .null, .null, .null, .int 0, .int 0, .int 0, .int 0]))] H locs := hH
  refine lv_aload_n hx hb dX1_init_9 rfl (lv_at hl 0 rfl) ?_
  refine lv_iload_n hx hb dX1_init_10 rfl (lv_at hl 2 rfl) ?_
  refine rputF (C := RX1) (T := TX1) (N := 12) (ref := RX1) F in_X1_init_X1 tyX1 tyX1_ok nmX1 hH 0 rfl rfl 1 (by decide) (by decide +kernel) (fun _ h9 => h9) rfl hnm rfl (v := .int w) (nar01 hw) (fit01 hw) (Nat.le_of_ble_eq_true rfl) dX1_init_11 (fun H locs hH => ?_)
  have hH : HH G A s [(h0, .inr (1, [.int v, .int w, .null, .null, .null, .null, .null, .null, .int 0, .int 0, .int 0, .int 0]))] H locs := hH
  refine lv_aload_n hx hb dX1_init_14 rfl (lv_at hl 0 rfl) ?_
  refine lv_sipush (v := 201) hx hb dX1_init_15 (by decide) ?_
  refine rnewa (atype := .int) F (by decide +kernel) 0 (ty := .int) rfl rfl hH (a0 := (201, .inl (fun _ => 0))) (fun _ => rfl) (by decide) (by decide) (Nat.le_of_ble_eq_true rfl) (Nat.le_of_ble_eq_true rfl) (Nat.le_of_ble_eq_true rfl) dX1_init_18 (fun a19 H hH => ?_)
  have hH : HH G A s [(h0, .inr (1, [.int v, .int w, .null, .null, .null, .null, .null, .null, .int 0, .int 0, .int 0, .int 0])), (a19, .inl (G.2 0, 201, .inl (fun _ => 0)))] H _ := hH
  refine rputF (C := RX1) (T := TX1) (N := 12) (ref := RX1) F in_X1_init_X1 tyX1 tyX1_ok nmX1 hH 0 rfl rfl 2 (by decide) (by decide +kernel) (fun _ h9 => h9) rfl hnm rfl (v := .ref a19) rfl rfl (Nat.le_of_ble_eq_true rfl) dX1_init_20 (fun H locs hH => ?_)
  have hH : HH G A s [(h0, .inr (1, [.int v, .int w, .ref a19, .null, .null, .null, .null, .null, .int 0, .int 0, .int 0, .int 0])), (a19, .inl (G.2 0, 201, .inl (fun _ => 0)))] H locs := hH
  refine lv_aload_n hx hb dX1_init_23 rfl (lv_at hl 0 rfl) ?_
  refine lv_sipush (v := 201) hx hb dX1_init_24 (by decide) ?_
  refine rnewa (atype := .int) F (by decide +kernel) 0 (ty := .int) rfl rfl hH (a0 := (201, .inl (fun _ => 0))) (fun _ => rfl) (by decide) (by decide) (Nat.le_of_ble_eq_true rfl) (Nat.le_of_ble_eq_true rfl) (Nat.le_of_ble_eq_true rfl) dX1_init_27 (fun a29 H hH => ?_)
  have hH : HH G A s [(h0, .inr (1, [.int v, .int w, .ref a19, .null, .null, .null, .null, .null, .int 0, .int 0, .int 0, .int 0])), (a19, .inl (G.2 0, 201, .inl (fun _ => 0))), (a29, .inl (G.2 0, 201, .inl (fun _ => 0)))] H _ := hH
  refine rputF (C := RX1) (T := TX1) (N := 12) (ref := RX1) F in_X1_init_X1 tyX1 tyX1_ok nmX1 hH 0 rfl rfl 3 (by decide) (by decide +kernel) (fun _ h9 => h9) rfl hnm rfl (v := .ref a29) rfl rfl (Nat.le_of_ble_eq_true rfl) dX1_init_29 (fun H locs hH => ?_)
  have hH : HH G A s [(h0, .inr (1, [.int v, .int w, .ref a19, .ref a29, .null, .null, .null, .null, .int 0, .int 0, .int 0, .int 0])), (a19, .inl (G.2 0, 201, .inl (fun _ => 0))), (a29, .inl (G.2 0, 201, .inl (fun _ => 0)))] H locs := hH
  refine lv_aload_n hx hb dX1_init_32 rfl (lv_at hl 0 rfl) ?_
  refine lv_sipush (v := 201) hx hb dX1_init_33 (by decide) ?_
  refine rnewa (atype := .int) F (by decide +kernel) 0 (ty := .int) rfl rfl hH (a0 := (201, .inl (fun _ => 0))) (fun _ => rfl) (by decide) (by decide) (Nat.le_of_ble_eq_true rfl) (Nat.le_of_ble_eq_true rfl) (Nat.le_of_ble_eq_true rfl) dX1_init_36 (fun a39 H hH => ?_)
  have hH : HH G A s [(h0, .inr (1, [.int v, .int w, .ref a19, .ref a29, .null, .null, .null, .null, .int 0, .int 0, .int 0, .int 0])), (a19, .inl (G.2 0, 201, .inl (fun _ => 0))), (a29, .inl (G.2 0, 201, .inl (fun _ => 0))), (a39, .inl (G.2 0, 201, .inl (fun _ => 0)))] H _ := hH
  refine rputF (C := RX1) (T := TX1) (N := 12) (ref := RX1) F in_X1_init_X1 tyX1 tyX1_ok nmX1 hH 0 rfl rfl 4 (by decide) (by decide +kernel) (fun _ h9 => h9) rfl hnm rfl (v := .ref a39) rfl rfl (Nat.le_of_ble_eq_true rfl) dX1_init_38 (fun H locs hH => ?_)
  have hH : HH G A s [(h0, .inr (1, [.int v, .int w, .ref a19, .ref a29, .ref a39, .null, .null, .null, .int 0, .int 0, .int 0, .int 0])), (a19, .inl (G.2 0, 201, .inl (fun _ => 0))), (a29, .inl (G.2 0, 201, .inl (fun _ => 0))), (a39, .inl (G.2 0, 201, .inl (fun _ => 0)))] H locs := hH
  refine lv_aload_n hx hb dX1_init_41 rfl (lv_at hl 0 rfl) ?_
  refine lv_sipush (v := 201) hx hb dX1_init_42 (by decide) ?_
  refine rnewa (atype := .int) F (by decide +kernel) 0 (ty := .int) rfl rfl hH (a0 := (201, .inl (fun _ => 0))) (fun _ => rfl) (by decide) (by decide) (Nat.le_of_ble_eq_true rfl) (Nat.le_of_ble_eq_true rfl) (Nat.le_of_ble_eq_true rfl) dX1_init_45 (fun a49 H hH => ?_)
  have hH : HH G A s [(h0, .inr (1, [.int v, .int w, .ref a19, .ref a29, .ref a39, .null, .null, .null, .int 0, .int 0, .int 0, .int 0])), (a19, .inl (G.2 0, 201, .inl (fun _ => 0))), (a29, .inl (G.2 0, 201, .inl (fun _ => 0))), (a39, .inl (G.2 0, 201, .inl (fun _ => 0))), (a49, .inl (G.2 0, 201, .inl (fun _ => 0)))] H _ := hH
  refine rputF (C := RX1) (T := TX1) (N := 12) (ref := RX1) F in_X1_init_X1 tyX1 tyX1_ok nmX1 hH 0 rfl rfl 5 (by decide) (by decide +kernel) (fun _ h9 => h9) rfl hnm rfl (v := .ref a49) rfl rfl (Nat.le_of_ble_eq_true rfl) dX1_init_47 (fun H locs hH => ?_)
  have hH : HH G A s [(h0, .inr (1, [.int v, .int w, .ref a19, .ref a29, .ref a39, .ref a49, .null, .null, .int 0, .int 0, .int 0, .int 0])), (a19, .inl (G.2 0, 201, .inl (fun _ => 0))), (a29, .inl (G.2 0, 201, .inl (fun _ => 0))), (a39, .inl (G.2 0, 201, .inl (fun _ => 0))), (a49, .inl (G.2 0, 201, .inl (fun _ => 0)))] H locs := hH
  refine lv_aload_n hx hb dX1_init_50 rfl (lv_at hl 0 rfl) ?_
  refine lv_sipush (v := 201) hx hb dX1_init_51 (by decide) ?_
  refine rnewa (atype := .int) F (by decide +kernel) 0 (ty := .int) rfl rfl hH (a0 := (201, .inl (fun _ => 0))) (fun _ => rfl) (by decide) (by decide) (Nat.le_of_ble_eq_true rfl) (Nat.le_of_ble_eq_true rfl) (Nat.le_of_ble_eq_true rfl) dX1_init_54 (fun a59 H hH => ?_)
  have hH : HH G A s [(h0, .inr (1, [.int v, .int w, .ref a19, .ref a29, .ref a39, .ref a49, .null, .null, .int 0, .int 0, .int 0, .int 0])), (a19, .inl (G.2 0, 201, .inl (fun _ => 0))), (a29, .inl (G.2 0, 201, .inl (fun _ => 0))), (a39, .inl (G.2 0, 201, .inl (fun _ => 0))), (a49, .inl (G.2 0, 201, .inl (fun _ => 0))), (a59, .inl (G.2 0, 201, .inl (fun _ => 0)))] H _ := hH
  refine rputF (C := RX1) (T := TX1) (N := 12) (ref := RX1) F in_X1_init_X1 tyX1 tyX1_ok nmX1 hH 0 rfl rfl 6 (by decide) (by decide +kernel) (fun _ h9 => h9) rfl hnm rfl (v := .ref a59) rfl rfl (Nat.le_of_ble_eq_true rfl) dX1_init_56 (fun H locs hH => ?_)
  have hH : HH G A s [(h0, .inr (1, [.int v, .int w, .ref a19, .ref a29, .ref a39, .ref a49, .ref a59, .null, .int 0, .int 0, .int 0, .int 0])), (a19, .inl (G.2 0, 201, .inl (fun _ => 0))), (a29, .inl (G.2 0, 201, .inl (fun _ => 0))), (a39, .inl (G.2 0, 201, .inl (fun _ => 0))), (a49, .inl (G.2 0, 201, .inl (fun _ => 0))), (a59, .inl (G.2 0, 201, .inl (fun _ => 0)))] H locs := hH
  refine lv_aload_n hx hb dX1_init_59 rfl (lv_at hl 0 rfl) ?_
  refine lv_sipush (v := 201) hx hb dX1_init_60 (by decide) ?_
  refine rnewa (atype := .boolean) F (by decide +kernel) 1 (ty := .boolean) rfl rfl hH (a0 := (201, .inl (fun _ => 0))) (fun _ => rfl) (by decide) (by decide) (Nat.le_of_ble_eq_true rfl) (Nat.le_of_ble_eq_true rfl) (Nat.le_of_ble_eq_true rfl) dX1_init_63 (fun a69 H hH => ?_)
  have hH : HH G A s [(h0, .inr (1, [.int v, .int w, .ref a19, .ref a29, .ref a39, .ref a49, .ref a59, .null, .int 0, .int 0, .int 0, .int 0])), (a19, .inl (G.2 0, 201, .inl (fun _ => 0))), (a29, .inl (G.2 0, 201, .inl (fun _ => 0))), (a39, .inl (G.2 0, 201, .inl (fun _ => 0))), (a49, .inl (G.2 0, 201, .inl (fun _ => 0))), (a59, .inl (G.2 0, 201, .inl (fun _ => 0))), (a69, .inl (G.2 1, 201, .inl (fun _ => 0)))] H _ := hH
  refine rputF (C := RX1) (T := TX1) (N := 12) (ref := RX1) F in_X1_init_X1 tyX1 tyX1_ok nmX1 hH 0 rfl rfl 7 (by decide) (by decide +kernel) (fun _ h9 => h9) rfl hnm rfl (v := .ref a69) rfl rfl (Nat.le_of_ble_eq_true rfl) dX1_init_65 (fun H locs hH => ?_)
  have hH : HH G A s [(h0, .inr (1, [.int v, .int w, .ref a19, .ref a29, .ref a39, .ref a49, .ref a59, .ref a69, .int 0, .int 0, .int 0, .int 0])), (a19, .inl (G.2 0, 201, .inl (fun _ => 0))), (a29, .inl (G.2 0, 201, .inl (fun _ => 0))), (a39, .inl (G.2 0, 201, .inl (fun _ => 0))), (a49, .inl (G.2 0, 201, .inl (fun _ => 0))), (a59, .inl (G.2 0, 201, .inl (fun _ => 0))), (a69, .inl (G.2 1, 201, .inl (fun _ => 0)))] H locs := hH
  exact retV F hr (va_up (va_up (va_up (va_up (va_up (va_up (fun _ => 0) 2 a19) 3 a29) 4 a39) 5 a49) 6 a59) 7 a69) hH (Nat.le_of_ble_eq_true rfl) (Nat.le_of_ble_eq_true rfl) dX1_init_68

set_option maxHeartbeats 4000000 in
set_option maxRecDepth 100000 in
theorem c_X2_init (l : Launch) (G : Gx) (h0 : Nat) : MV l yX2_init wsX2_init ({ frames := 1, cells := 3, slots := 219, locals := 20 } : Room) [.ref h0] G ([(h0, .inr (2, [.null, .null, .null, .int 0, .int 0, .int 0, .int 0, .int 0]))]) (fun u => sW G (va_up u 0 h0) 0 0 0 50 0 (fun _ => 0) (fun _ _ => 0) (fun _ _ => 0) (fun _ _ _ => 0) (fun _ => 0) (fun _ _ => 0)) := by
  refine ofMV (cc := cX2_init) (maxL := 1) (ret := none) (by decide) rfl (Nat.le_of_ble_eq_true rfl) (fun p e s m below meth c A ls F hr hnm hH hl => ?_)
  have F : Fx G p s m _ meth c cX2_init 1 wsX2_init RX2 A := F
  have hx := F.1.1
  have hb := F.1.2.1
  have hl : lv_has ls 1 [(0, .ref h0)] := hl
  refine lv_aload_n hx hb dX2_init_0 rfl (lv_at hl 0 rfl) ?_
  refine W.objInit hx hb F.1.2.2.2.1 (F.1.2.2.2.2 (.methodLink RX2 3 objectInit) (by decide +kernel)) (F.1.2.2.2.2 (.instanceMethod objectInit) (by decide +kernel)) (F.1.2.2.2.2 (.code objectInit ⟨#[0xb1]⟩ 1 none) (by decide +kernel)) rfl (by rw [F.1.2.2.1]; exact hl.1) rfl dX2_init_1 (Nat.le_of_ble_eq_true rfl) (Nat.le_of_ble_eq_true rfl) ?_
  refine W.eq (g2 := F0 m 4 ls []) rfl ?_
  refine lv_aload_n hx hb dX2_init_4 rfl (lv_at hl 0 rfl) ?_
  refine lv_bipush (v := 8) hx hb dX2_init_5 (by decide) ?_
  refine rnewq (C := RX1) (index := 9) F (by decide +kernel) F.2.2.2.1.2.1 2 rfl hH (N' := 8) (by decide) (by decide) (Nat.le_of_ble_eq_true rfl) (Nat.le_of_ble_eq_true rfl) (Nat.le_of_ble_eq_true rfl) dX2_init_7 (fun a19 H hH => ?_)
  have hH : HH G A s [(h0, .inr (2, [.null, .null, .null, .int 0, .int 0, .int 0, .int 0, .int 0])), (a19, .inl (G.2 2, 8, .inr (.inr (.inr (.inr (fun _ => none))))))] H _ := hH
  refine rputF (C := RX2) (T := TX2) (N := 8) (ref := RX2) F in_X2_init_X2 tyX2 tyX2_ok nmX2 hH 0 rfl rfl 0 (by decide) (by decide +kernel) (fun _ h9 => h9) rfl hnm rfl (v := .ref a19) rfl rfl (Nat.le_of_ble_eq_true rfl) dX2_init_10 (fun H locs hH => ?_)
  have hH : HH G A s [(h0, .inr (2, [.ref a19, .null, .null, .int 0, .int 0, .int 0, .int 0, .int 0])), (a19, .inl (G.2 2, 8, .inr (.inr (.inr (.inr (fun _ => none))))))] H locs := hH
  refine lv_aload_n hx hb dX2_init_13 rfl (lv_at hl 0 rfl) ?_
  refine lv_bipush (v := 10) hx hb dX2_init_14 (by decide) ?_
  refine rnewq (C := RX0) (index := 15) F (by decide +kernel) F.2.2.2.1.2.2.1 3 rfl hH (N' := 10) (by decide) (by decide) (Nat.le_of_ble_eq_true rfl) (Nat.le_of_ble_eq_true rfl) (Nat.le_of_ble_eq_true rfl) dX2_init_16 (fun a29 H hH => ?_)
  have hH : HH G A s [(h0, .inr (2, [.ref a19, .null, .null, .int 0, .int 0, .int 0, .int 0, .int 0])), (a19, .inl (G.2 2, 8, .inr (.inr (.inr (.inr (fun _ => none)))))), (a29, .inl (G.2 3, 10, .inr (.inr (.inr (.inr (fun _ => none))))))] H _ := hH
  refine rputF (C := RX2) (T := TX2) (N := 8) (ref := RX2) F in_X2_init_X2 tyX2 tyX2_ok nmX2 hH 0 rfl rfl 1 (by decide) (by decide +kernel) (fun _ h9 => h9) rfl hnm rfl (v := .ref a29) rfl rfl (Nat.le_of_ble_eq_true rfl) dX2_init_19 (fun H locs hH => ?_)
  have hH : HH G A s [(h0, .inr (2, [.ref a19, .ref a29, .null, .int 0, .int 0, .int 0, .int 0, .int 0])), (a19, .inl (G.2 2, 8, .inr (.inr (.inr (.inr (fun _ => none)))))), (a29, .inl (G.2 3, 10, .inr (.inr (.inr (.inr (fun _ => none))))))] H locs := hH
  refine lv_aload_n hx hb dX2_init_22 rfl (lv_at hl 0 rfl) ?_
  refine lv_sipush (v := 201) hx hb dX2_init_23 (by decide) ?_
  refine rnewa (atype := .boolean) F (by decide +kernel) 1 (ty := .boolean) rfl rfl hH (a0 := (201, .inl (fun _ => 0))) (fun _ => rfl) (by decide) (by decide) (Nat.le_of_ble_eq_true rfl) (Nat.le_of_ble_eq_true rfl) (Nat.le_of_ble_eq_true rfl) dX2_init_26 (fun a39 H hH => ?_)
  have hH : HH G A s [(h0, .inr (2, [.ref a19, .ref a29, .null, .int 0, .int 0, .int 0, .int 0, .int 0])), (a19, .inl (G.2 2, 8, .inr (.inr (.inr (.inr (fun _ => none)))))), (a29, .inl (G.2 3, 10, .inr (.inr (.inr (.inr (fun _ => none)))))), (a39, .inl (G.2 1, 201, .inl (fun _ => 0)))] H _ := hH
  refine rputF (C := RX2) (T := TX2) (N := 8) (ref := RX2) F in_X2_init_X2 tyX2 tyX2_ok nmX2 hH 0 rfl rfl 2 (by decide) (by decide +kernel) (fun _ h9 => h9) rfl hnm rfl (v := .ref a39) rfl rfl (Nat.le_of_ble_eq_true rfl) dX2_init_28 (fun H locs hH => ?_)
  have hH : HH G A s [(h0, .inr (2, [.ref a19, .ref a29, .ref a39, .int 0, .int 0, .int 0, .int 0, .int 0])), (a19, .inl (G.2 2, 8, .inr (.inr (.inr (.inr (fun _ => none)))))), (a29, .inl (G.2 3, 10, .inr (.inr (.inr (.inr (fun _ => none)))))), (a39, .inl (G.2 1, 201, .inl (fun _ => 0)))] H locs := hH
  refine lv_aload_n hx hb dX2_init_31 rfl (lv_at hl 0 rfl) ?_
  refine lv_bipush (v := 50) hx hb dX2_init_32 (by decide) ?_
  refine rput (C := RX2) (T := TX2) (N := 8) (ref := RX2) F in_X2_init_X2 tyX2 tyX2_ok nmX2 hH 0 rfl rfl 6 (by decide) (by decide +kernel) (fun _ h9 => h9) rfl (v := .int 50) rfl rfl (Nat.le_of_ble_eq_true rfl) dX2_init_34 (fun H locs hH => ?_)
  have hH : HH G A s [(h0, .inr (2, [.ref a19, .ref a29, .ref a39, .int 0, .int 0, .int 0, .int 50, .int 0])), (a19, .inl (G.2 2, 8, .inr (.inr (.inr (.inr (fun _ => none)))))), (a29, .inl (G.2 3, 10, .inr (.inr (.inr (.inr (fun _ => none)))))), (a39, .inl (G.2 1, 201, .inl (fun _ => 0)))] H locs := hH
  exact retV F hr (va_up (va_up (va_up (fun _ => 0) 1 a19) 2 a29) 3 a39) (by unfold sW; rw [rfT_z]; exact hH) (Nat.le_of_ble_eq_true rfl) (Nat.le_of_ble_eq_true rfl) dX2_init_37

set_option maxHeartbeats 4000000 in
set_option maxRecDepth 100000 in
theorem c_X2_add_1 (l : Launch) (G : Gx) (q : Nat → Nat) (n nc t : Nat) (fl fd : Int32) (k : Nat → Int32) (wd : Nat → Nat → Nat) (wf : Nat → Nat → Int32) (wa : Nat → Nat → Nat → Int32) (cd : Nat → Nat) (cf : Nat → Nat → Int32) (hn9 : n < 8) (v w : Int32) (h1 : 1 ≤ v) (h2 : v ≤ 100000) (hw : w = 0 ∨ w = 1) : MI l yX2_add wsX2_add ({ frames := 2, cells := 7, slots := 1218, locals := 42 } : Room) [.ref (q 0), .int v, .int w] G (sW G q n nc t fl fd k wd wf wa cd cf) (fun u => sW G q (n + 1) nc t fl fd k (va_up wd n u) (va_up wf n (va_up (va_up (fun _ => 0) 0 v) 1 w)) (va_up wa n (fun _ _ => 0)) cd cf) (nI n) := by
  refine ofMI (cc := cX2_add) (maxL := 4) (ret := (some .int)) (by decide) rfl (Nat.le_of_ble_eq_true rfl) (fun p e s m below meth c A ls F hr hnm hH hl => ?_)
  have F : Fx G p s m _ meth c cX2_add 4 wsX2_add RX2 A := F
  have hx := F.1.1
  have hb := F.1.2.1
  have hl : lv_has ls 4 [(0, .ref (q 0)), (1, .int v), (2, .int w)] := hl
  refine lv_iload_n hx hb dX2_add_0 rfl (lv_at hl 1 rfl) ?_
  refine lv_iconst (v := 1) hx hb dX2_add_1 (by decide) ?_
  refine lv_ldc hx hb F.1.2.2.2.1 (F.1.2.2.2.2 (.constant RX2 29 (100000)) (by decide +kernel)) dX2_add_2 ?_
  refine callSI0 (rest := []) F (c_X2_isWithin_1 l G _ v 1 100000 h1 h2) gX2_add_X2_isWithin rfl hdX2_isWithin ⟨Nat.le_of_ble_eq_true rfl, Nat.le_of_ble_eq_true rfl⟩ hH rfl hl.1 (Nat.le_of_ble_eq_true rfl) dX2_add_4 ⟨Nat.le_of_ble_eq_true rfl, Nat.le_of_ble_eq_true rfl⟩ rfl (fun u H locs hH => ?_)
  have hH : HH G A s (sW G q n nc t fl fd k wd wf wa cd cf) H locs := hH
  refine callSV0 (rest := []) F (c_X2_requireArgument_1 l G _) gX2_add_X2_requireArgument rfl hdX2_requireArgument ⟨Nat.le_of_ble_eq_true rfl, Nat.le_of_ble_eq_true rfl⟩ hH rfl hl.1 (Nat.le_of_ble_eq_true rfl) dX2_add_7 ⟨Nat.le_of_ble_eq_true rfl, Nat.le_of_ble_eq_true rfl⟩ rfl (fun u H locs hH => ?_)
  have hH : HH G A s (sW G q n nc t fl fd k wd wf wa cd cf) H locs := hH
  refine lv_aload_n hx hb dX2_add_10 rfl (lv_at hl 0 rfl) ?_
  refine rget (C := RX2) (T := TX2) (N := 8) (ref := RX2) F in_X2_add_X2 hH 0 rfl rfl 3 (by decide) (by decide +kernel) (fun _ h9 => h9) (v := .int (nI n)) rfl dX2_add_11 ?_
  refine lv_bipush (v := 8) hx hb dX2_add_14 (by decide) ?_
  refine lv_icmp_ge (tgt := 23) hx hb dX2_add_16 (by decide) (fun c_16 => absurd c_16 (nI_ge (a := n) (b := 8) hn9 (by decide))) (fun c_16 => ?_)
  refine lv_iconst (v := 1) hx hb dX2_add_19 (by decide) ?_
  refine lv_goto (tgt := 24) hx hb dX2_add_20 (by decide) ?_
  refine callSV0 (rest := []) F (c_X2_requireState_1 l G _) gX2_add_X2_requireState rfl hdX2_requireState ⟨Nat.le_of_ble_eq_true rfl, Nat.le_of_ble_eq_true rfl⟩ hH rfl hl.1 (Nat.le_of_ble_eq_true rfl) dX2_add_24 ⟨Nat.le_of_ble_eq_true rfl, Nat.le_of_ble_eq_true rfl⟩ rfl (fun u H locs hH => ?_)
  have hH : HH G A s (sW G q n nc t fl fd k wd wf wa cd cf) H locs := hH
  refine lv_aload_n hx hb dX2_add_27 rfl (lv_at hl 0 rfl) ?_
  refine rget (C := RX2) (T := TX2) (N := 8) (ref := RX2) F in_X2_add_X2 hH 0 rfl rfl 3 (by decide) (by decide +kernel) (fun _ h9 => h9) (v := .int (nI n)) rfl dX2_add_28 ?_
  refine lv_istore_n (lv' := [(3, .int (nI n)), (0, .ref (q 0)), (1, .int v), (2, .int w)]) hx hb dX2_add_31 rfl hl (by decide) rfl (fun ls hl => ?_)
  refine lv_aload_n hx hb dX2_add_32 rfl (lv_at hl 1 rfl) ?_
  refine rget (C := RX2) (T := TX2) (N := 8) (ref := RX2) F in_X2_add_X2 hH 0 rfl rfl 0 (by decide) (by decide +kernel) (fun _ h9 => h9) (v := .ref (q 1)) rfl dX2_add_33 ?_
  refine lv_iload_n hx hb dX2_add_36 rfl (lv_at hl 0 rfl) ?_
  refine rnew (C := RX1) (T := TX1) (N := 12) (ci := 1) F in_X2_add_X1 tyX1 tyX1_ok (by decide +kernel) (by decide +kernel) (by decide +kernel) hH rfl (fs := [.int 0, .int 0, .null, .null, .null, .null, .null, .null, .int 0, .int 0, .int 0, .int 0]) (fun j hj => by rcases (show j = 0 ∨ j = 1 ∨ j = 2 ∨ j = 3 ∨ j = 4 ∨ j = 5 ∨ j = 6 ∨ j = 7 ∨ j = 8 ∨ j = 9 ∨ j = 10 ∨ j = 11 by omega) with rfl | rfl | rfl | rfl | rfl | rfl | rfl | rfl | rfl | rfl | rfl | rfl <;> rfl) (Nat.le_of_ble_eq_true rfl) (Nat.le_of_ble_eq_true rfl) dX2_add_37 (fun q5 H hH => ?_)
  refine lv_dup hx hb dX2_add_40 rfl ?_
  refine lv_iload_n hx hb dX2_add_41 rfl (lv_at hl 2 rfl) ?_
  refine lv_iload_n hx hb dX2_add_42 rfl (lv_at hl 3 rfl) ?_
  refine callIV (a := sW G q n nc t fl fd k wd wf wa cd cf) (b := []) (rest := [.ref q5, .int (nI n), .ref (q 1)]) F (c_X1_init l G q5 v w hw) gX2_add_X1_init rfl (by decide +kernel) (by decide +kernel) (by decide +kernel) rfl hdX1_init ⟨Nat.le_of_ble_eq_true rfl, Nat.le_of_ble_eq_true rfl⟩ hH (by simp) rfl hl.1 (Nat.le_of_ble_eq_true rfl) dX2_add_43 ⟨Nat.le_of_ble_eq_true rfl, Nat.le_of_ble_eq_true rfl⟩ rfl (fun u H locs hH => ?_)
  refine raast F hH 1 2 ((sW G q n nc t fl fd k wd wf wa cd cf).length + 0) 1 rfl rfl (mid_at (a := sW G q n nc t fl fd k wd wf wa cd cf) (w := wW G (va_up u 0 q5) (va_up (va_up (fun _ => 0) 0 v) 1 w) (fun _ _ => 0)) (b := []) (k := 0) rfl) rfl n rfl (by omega) (by decide) dX2_add_46 (fun H locs hH => ?_)
  refine lv_aload_n hx hb dX2_add_47 rfl (lv_at hl 1 rfl) ?_
  refine lv_iload_n hx hb dX2_add_48 rfl (lv_at hl 0 rfl) ?_
  refine lv_iconst (v := 1) hx hb dX2_add_49 (by decide) ?_
  refine lv_iadd hx hb dX2_add_50 ?_
  refine rput (C := RX2) (T := TX2) (N := 8) (ref := RX2) F in_X2_add_X2 tyX2 tyX2_ok nmX2 hH 0 rfl rfl 3 (by decide) (by decide +kernel) (fun _ h9 => h9) rfl (v := .int (nI n + 1)) rfl rfl (Nat.le_of_ble_eq_true rfl) dX2_add_51 (fun H locs hH => ?_)
  refine lv_iload_n hx hb dX2_add_54 rfl (lv_at hl 0 rfl) ?_
  exact retI F hr rfl (va_up u 0 q5) (sW_addW hH) rfl (Nat.le_of_ble_eq_true rfl) (Nat.le_of_ble_eq_true rfl) dX2_add_55

set_option maxHeartbeats 4000000 in
set_option maxRecDepth 100000 in
theorem c_X2_add_3 (l : Launch) (hst : l.stackTraces = false) (G : Gx) (q : Nat → Nat) (n nc t : Nat) (fl fd : Int32) (k : Nat → Int32) (wd : Nat → Nat → Nat) (wf : Nat → Nat → Int32) (wa : Nat → Nat → Nat → Int32) (cd : Nat → Nat) (cf : Nat → Nat → Int32) (hn9 : n = 8) (v w : Int32) (h1 : 1 ≤ v) (h2 : v ≤ 100000) : MX l yX2_add wsX2_add ({ frames := 7, cells := 1, slots := 6, locals := 110 } : Room) [.ref (q 0), .int v, .int w] G (sW G q n nc t fl fd k wd wf wa cd cf) "java/lang/IllegalStateException" := by
  refine ofMX (cc := cX2_add) (maxL := 4) (ret := (some .int)) (by decide) rfl (Nat.le_of_ble_eq_true rfl) (fun p e s m below meth c A ls F htb hH hl => ?_)
  have F : Fx G p s m _ meth c cX2_add 4 wsX2_add RX2 A := F
  have hx := F.1.1
  have hb := F.1.2.1
  have hl : lv_has ls 4 [(0, .ref (q 0)), (1, .int v), (2, .int w)] := hl
  refine lv_iload_n hx hb dX2_add_0 rfl (lv_at hl 1 rfl) ?_
  refine lv_iconst (v := 1) hx hb dX2_add_1 (by decide) ?_
  refine lv_ldc hx hb F.1.2.2.2.1 (F.1.2.2.2.2 (.constant RX2 29 (100000)) (by decide +kernel)) dX2_add_2 ?_
  refine callSI0 (rest := []) F (c_X2_isWithin_1 l G _ v 1 100000 h1 h2) gX2_add_X2_isWithin rfl hdX2_isWithin ⟨Nat.le_of_ble_eq_true rfl, Nat.le_of_ble_eq_true rfl⟩ hH rfl hl.1 (Nat.le_of_ble_eq_true rfl) dX2_add_4 ⟨Nat.le_of_ble_eq_true rfl, Nat.le_of_ble_eq_true rfl⟩ rfl (fun u H locs hH => ?_)
  have hH : HH G A s (sW G q n nc t fl fd k wd wf wa cd cf) H locs := hH
  refine callSV0 (rest := []) F (c_X2_requireArgument_1 l G _) gX2_add_X2_requireArgument rfl hdX2_requireArgument ⟨Nat.le_of_ble_eq_true rfl, Nat.le_of_ble_eq_true rfl⟩ hH rfl hl.1 (Nat.le_of_ble_eq_true rfl) dX2_add_7 ⟨Nat.le_of_ble_eq_true rfl, Nat.le_of_ble_eq_true rfl⟩ rfl (fun u H locs hH => ?_)
  have hH : HH G A s (sW G q n nc t fl fd k wd wf wa cd cf) H locs := hH
  refine lv_aload_n hx hb dX2_add_10 rfl (lv_at hl 0 rfl) ?_
  refine rget (C := RX2) (T := TX2) (N := 8) (ref := RX2) F in_X2_add_X2 hH 0 rfl rfl 3 (by decide) (by decide +kernel) (fun _ h9 => h9) (v := .int (nI n)) rfl dX2_add_11 ?_
  refine lv_bipush (v := 8) hx hb dX2_add_14 (by decide) ?_
  refine lv_icmp_ge (tgt := 23) hx hb dX2_add_16 (by decide) (fun c_16 => ?_) (fun c_16 => absurd (by rw [hn9]; decide) c_16)
  refine lv_iconst (v := 0) hx hb dX2_add_23 (by decide) ?_
  exact callSX0 (rest := []) F (c_X2_requireState_0 l hst G _) gX2_add_X2_requireState rfl hdX2_requireState ⟨Nat.le_of_ble_eq_true rfl, Nat.le_of_ble_eq_true rfl⟩ hH rfl hl.1 (Nat.le_of_ble_eq_true rfl) dX2_add_24 ⟨Nat.le_of_ble_eq_true rfl, Nat.le_of_ble_eq_true rfl⟩ rfl htb (Nat.le_of_ble_eq_true rfl) (Nat.le_of_ble_eq_true rfl)

set_option maxHeartbeats 4000000 in
set_option maxRecDepth 100000 in
theorem c_X2_add_2 (l : Launch) (hst : l.stackTraces = false) (G : Gx) (q : Nat → Nat) (n nc t : Nat) (fl fd : Int32) (k : Nat → Int32) (wd : Nat → Nat → Nat) (wf : Nat → Nat → Int32) (wa : Nat → Nat → Nat → Int32) (cd : Nat → Nat) (cf : Nat → Nat → Int32) (v w : Int32) (h : v < 1 ∨ 100000 < v) : MX l yX2_add wsX2_add ({ frames := 7, cells := 1, slots := 6, locals := 110 } : Room) [.ref (q 0), .int v, .int w] G (sW G q n nc t fl fd k wd wf wa cd cf) "java/lang/IllegalArgumentException" := by
  refine ofMX (cc := cX2_add) (maxL := 4) (ret := (some .int)) (by decide) rfl (Nat.le_of_ble_eq_true rfl) (fun p e s m below meth c A ls F htb hH hl => ?_)
  have F : Fx G p s m _ meth c cX2_add 4 wsX2_add RX2 A := F
  have hx := F.1.1
  have hb := F.1.2.1
  have hl : lv_has ls 4 [(0, .ref (q 0)), (1, .int v), (2, .int w)] := hl
  refine lv_iload_n hx hb dX2_add_0 rfl (lv_at hl 1 rfl) ?_
  refine lv_iconst (v := 1) hx hb dX2_add_1 (by decide) ?_
  refine lv_ldc hx hb F.1.2.2.2.1 (F.1.2.2.2.2 (.constant RX2 29 (100000)) (by decide +kernel)) dX2_add_2 ?_
  refine callSI0 (rest := []) F (c_X2_isWithin_0 l G _ v 1 100000 h) gX2_add_X2_isWithin rfl hdX2_isWithin ⟨Nat.le_of_ble_eq_true rfl, Nat.le_of_ble_eq_true rfl⟩ hH rfl hl.1 (Nat.le_of_ble_eq_true rfl) dX2_add_4 ⟨Nat.le_of_ble_eq_true rfl, Nat.le_of_ble_eq_true rfl⟩ rfl (fun u H locs hH => ?_)
  have hH : HH G A s (sW G q n nc t fl fd k wd wf wa cd cf) H locs := hH
  exact callSX0 (rest := []) F (c_X2_requireArgument_0 l hst G _) gX2_add_X2_requireArgument rfl hdX2_requireArgument ⟨Nat.le_of_ble_eq_true rfl, Nat.le_of_ble_eq_true rfl⟩ hH rfl hl.1 (Nat.le_of_ble_eq_true rfl) dX2_add_7 ⟨Nat.le_of_ble_eq_true rfl, Nat.le_of_ble_eq_true rfl⟩ rfl htb (Nat.le_of_ble_eq_true rfl) (Nat.le_of_ble_eq_true rfl)

set_option maxHeartbeats 4000000 in
set_option maxRecDepth 100000 in
theorem c_X2_addCourse_1 (l : Launch) (G : Gx) (q : Nat → Nat) (n nc t : Nat) (fl fd : Int32) (k : Nat → Int32) (wd : Nat → Nat → Nat) (wf : Nat → Nat → Int32) (wa : Nat → Nat → Nat → Int32) (cd : Nat → Nat) (cf : Nat → Nat → Int32) (hnc : nc < 10) (w : Int32) (w1 : 1 ≤ w) (w2 : w ≤ 8) (x y : Nat) (hxy : x ≤ y) (hy : y ≤ 200) (h : Int32) (h1 : 1 ≤ h) (h2 : h ≤ 40) : MI l yX2_addCourse wsX2_addCourse ({ frames := 2, cells := 1, slots := 4, locals := 44 } : Room) [.ref (q 0), .int w, .int (nI x), .int (nI y), .int h] G (sW G q n nc t fl fd k wd wf wa cd cf) (fun u => sW G q n (nc + 1) t fl fd k wd wf wa (va_up cd nc (u 0)) (va_up cf nc (va_up (va_up (va_up (va_up (fun _ => 0) 0 (nI x)) 1 (nI y)) 2 h) 3 w))) (nI nc) := by
  refine ofMI (cc := cX2_addCourse) (maxL := 6) (ret := (some .int)) (by decide) rfl (Nat.le_of_ble_eq_true rfl) (fun p e s m below meth c A ls F hr hnm hH hl => ?_)
  have F : Fx G p s m _ meth c cX2_addCourse 6 wsX2_addCourse RX2 A := F
  have hx := F.1.1
  have hb := F.1.2.1
  have hl : lv_has ls 6 [(0, .ref (q 0)), (1, .int w), (2, .int (nI x)), (3, .int (nI y)), (4, .int h)] := hl
  refine lv_iload_n hx hb dX2_addCourse_0 rfl (lv_at hl 1 rfl) ?_
  refine lv_iconst (v := 1) hx hb dX2_addCourse_1 (by decide) ?_
  refine lv_bipush (v := 8) hx hb dX2_addCourse_2 (by decide) ?_
  refine callSI0 (rest := []) F (c_X2_isWithin_1 l G _ w 1 8 w1 w2) gX2_addCourse_X2_isWithin rfl hdX2_isWithin ⟨Nat.le_of_ble_eq_true rfl, Nat.le_of_ble_eq_true rfl⟩ hH rfl hl.1 (Nat.le_of_ble_eq_true rfl) dX2_addCourse_4 ⟨Nat.le_of_ble_eq_true rfl, Nat.le_of_ble_eq_true rfl⟩ rfl (fun u H locs hH => ?_)
  have hH : HH G A s (sW G q n nc t fl fd k wd wf wa cd cf) H locs := hH
  refine lv_if_eq (tgt := 33) hx hb dX2_addCourse_7 (by decide) (fun c_7 => absurd c_7 (by decide)) (fun c_7 => ?_)
  refine lv_iload_n hx hb dX2_addCourse_10 rfl (lv_at hl 2 rfl) ?_
  refine lv_iload_n hx hb dX2_addCourse_11 rfl (lv_at hl 3 rfl) ?_
  refine callSI0 (rest := []) F (c_X2_isSpan_1 l G _ (nI x) (nI y) (nI_pos' (by omega)) (nI_le (a := x) (b := 200) (by omega) (by decide)) (nI_le hxy (by omega)) (nI_le (a := y) (b := 200) hy (by decide))) gX2_addCourse_X2_isSpan rfl hdX2_isSpan ⟨Nat.le_of_ble_eq_true rfl, Nat.le_of_ble_eq_true rfl⟩ hH rfl hl.1 (Nat.le_of_ble_eq_true rfl) dX2_addCourse_12 ⟨Nat.le_of_ble_eq_true rfl, Nat.le_of_ble_eq_true rfl⟩ rfl (fun u H locs hH => ?_)
  have hH : HH G A s (sW G q n nc t fl fd k wd wf wa cd cf) H locs := hH
  refine lv_if_eq (tgt := 33) hx hb dX2_addCourse_15 (by decide) (fun c_15 => absurd c_15 (by decide)) (fun c_15 => ?_)
  refine lv_iload hx hb dX2_addCourse_18 (lv_at hl 4 rfl) ?_
  refine lv_iconst (v := 1) hx hb dX2_addCourse_20 (by decide) ?_
  refine lv_bipush (v := 40) hx hb dX2_addCourse_21 (by decide) ?_
  refine callSI0 (rest := []) F (c_X2_isWithin_1 l G _ h 1 40 h1 h2) gX2_addCourse_X2_isWithin rfl hdX2_isWithin ⟨Nat.le_of_ble_eq_true rfl, Nat.le_of_ble_eq_true rfl⟩ hH rfl hl.1 (Nat.le_of_ble_eq_true rfl) dX2_addCourse_23 ⟨Nat.le_of_ble_eq_true rfl, Nat.le_of_ble_eq_true rfl⟩ rfl (fun u H locs hH => ?_)
  have hH : HH G A s (sW G q n nc t fl fd k wd wf wa cd cf) H locs := hH
  refine lv_if_eq (tgt := 33) hx hb dX2_addCourse_26 (by decide) (fun c_26 => absurd c_26 (by decide)) (fun c_26 => ?_)
  refine lv_iconst (v := 1) hx hb dX2_addCourse_29 (by decide) ?_
  refine lv_goto (tgt := 34) hx hb dX2_addCourse_30 (by decide) ?_
  refine callSV0 (rest := []) F (c_X2_requireArgument_1 l G _) gX2_addCourse_X2_requireArgument rfl hdX2_requireArgument ⟨Nat.le_of_ble_eq_true rfl, Nat.le_of_ble_eq_true rfl⟩ hH rfl hl.1 (Nat.le_of_ble_eq_true rfl) dX2_addCourse_34 ⟨Nat.le_of_ble_eq_true rfl, Nat.le_of_ble_eq_true rfl⟩ rfl (fun u H locs hH => ?_)
  have hH : HH G A s (sW G q n nc t fl fd k wd wf wa cd cf) H locs := hH
  refine lv_aload_n hx hb dX2_addCourse_37 rfl (lv_at hl 0 rfl) ?_
  refine rget (C := RX2) (T := TX2) (N := 8) (ref := RX2) F in_X2_addCourse_X2 hH 0 rfl rfl 4 (by decide) (by decide +kernel) (fun _ h9 => h9) (v := .int (nI nc)) rfl dX2_addCourse_38 ?_
  refine lv_bipush (v := 10) hx hb dX2_addCourse_41 (by decide) ?_
  refine lv_icmp_ge (tgt := 50) hx hb dX2_addCourse_43 (by decide) (fun c_43 => absurd c_43 (nI_ge (a := nc) (b := 10) hnc (by decide))) (fun c_43 => ?_)
  refine lv_iconst (v := 1) hx hb dX2_addCourse_46 (by decide) ?_
  refine lv_goto (tgt := 51) hx hb dX2_addCourse_47 (by decide) ?_
  refine callSV0 (rest := []) F (c_X2_requireState_1 l G _) gX2_addCourse_X2_requireState rfl hdX2_requireState ⟨Nat.le_of_ble_eq_true rfl, Nat.le_of_ble_eq_true rfl⟩ hH rfl hl.1 (Nat.le_of_ble_eq_true rfl) dX2_addCourse_51 ⟨Nat.le_of_ble_eq_true rfl, Nat.le_of_ble_eq_true rfl⟩ rfl (fun u H locs hH => ?_)
  have hH : HH G A s (sW G q n nc t fl fd k wd wf wa cd cf) H locs := hH
  refine lv_aload_n hx hb dX2_addCourse_54 rfl (lv_at hl 0 rfl) ?_
  refine rget (C := RX2) (T := TX2) (N := 8) (ref := RX2) F in_X2_addCourse_X2 hH 0 rfl rfl 4 (by decide) (by decide +kernel) (fun _ h9 => h9) (v := .int (nI nc)) rfl dX2_addCourse_55 ?_
  refine lv_istore (lv' := [(5, .int (nI nc)), (0, .ref (q 0)), (1, .int w), (2, .int (nI x)), (3, .int (nI y)), (4, .int h)]) hx hb dX2_addCourse_58 hl (by decide) rfl (fun ls hl => ?_)
  refine lv_aload_n hx hb dX2_addCourse_60 rfl (lv_at hl 1 rfl) ?_
  refine rget (C := RX2) (T := TX2) (N := 8) (ref := RX2) F in_X2_addCourse_X2 hH 0 rfl rfl 1 (by decide) (by decide +kernel) (fun _ h9 => h9) (v := .ref (q 2)) rfl dX2_addCourse_61 ?_
  refine lv_iload hx hb dX2_addCourse_64 (lv_at hl 0 rfl) ?_
  refine rnew (C := RX0) (T := TX0) (N := 4) (ci := 0) F in_X2_addCourse_X0 tyX0 tyX0_ok (by decide +kernel) (by decide +kernel) (by decide +kernel) hH rfl (fs := [.int 0, .int 0, .int 0, .int 0]) (fun j hj => by rcases (show j = 0 ∨ j = 1 ∨ j = 2 ∨ j = 3 by omega) with rfl | rfl | rfl | rfl <;> rfl) (Nat.le_of_ble_eq_true rfl) (Nat.le_of_ble_eq_true rfl) dX2_addCourse_66 (fun q5 H hH => ?_)
  refine lv_dup hx hb dX2_addCourse_69 rfl ?_
  refine lv_iload_n hx hb dX2_addCourse_70 rfl (lv_at hl 2 rfl) ?_
  refine lv_iload_n hx hb dX2_addCourse_71 rfl (lv_at hl 3 rfl) ?_
  refine lv_iload_n hx hb dX2_addCourse_72 rfl (lv_at hl 4 rfl) ?_
  refine lv_iload hx hb dX2_addCourse_73 (lv_at hl 5 rfl) ?_
  refine callIV (a := sW G q n nc t fl fd k wd wf wa cd cf) (b := []) (rest := [.ref q5, .int (nI nc), .ref (q 2)]) F (c_X0_init l G q5 w (nI x) (nI y) h) gX2_addCourse_X0_init rfl (by decide +kernel) (by decide +kernel) (by decide +kernel) rfl hdX0_init ⟨Nat.le_of_ble_eq_true rfl, Nat.le_of_ble_eq_true rfl⟩ hH (by simp) rfl hl.1 (Nat.le_of_ble_eq_true rfl) dX2_addCourse_75 ⟨Nat.le_of_ble_eq_true rfl, Nat.le_of_ble_eq_true rfl⟩ rfl (fun u H locs hH => ?_)
  refine raast F hH 2 3 ((sW G q n nc t fl fd k wd wf wa cd cf).length + 0) 0 rfl rfl (mid_at (a := sW G q n nc t fl fd k wd wf wa cd cf) (w := cC q5 (va_up (va_up (va_up (va_up (fun _ => 0) 0 (nI x)) 1 (nI y)) 2 h) 3 w)) (b := []) (k := 0) rfl) rfl nc rfl (by omega) (by decide) dX2_addCourse_78 (fun H locs hH => ?_)
  refine lv_aload_n hx hb dX2_addCourse_79 rfl (lv_at hl 1 rfl) ?_
  refine lv_iload hx hb dX2_addCourse_80 (lv_at hl 0 rfl) ?_
  refine lv_iconst (v := 1) hx hb dX2_addCourse_82 (by decide) ?_
  refine lv_iadd hx hb dX2_addCourse_83 ?_
  refine rput (C := RX2) (T := TX2) (N := 8) (ref := RX2) F in_X2_addCourse_X2 tyX2 tyX2_ok nmX2 hH 0 rfl rfl 4 (by decide) (by decide +kernel) (fun _ h9 => h9) rfl (v := .int (nI nc + 1)) rfl rfl (Nat.le_of_ble_eq_true rfl) dX2_addCourse_84 (fun H locs hH => ?_)
  refine lv_iload hx hb dX2_addCourse_87 (lv_at hl 0 rfl) ?_
  exact retI F hr rfl (fun _ => q5) (sW_addC hH) rfl (Nat.le_of_ble_eq_true rfl) (Nat.le_of_ble_eq_true rfl) dX2_addCourse_89

set_option maxHeartbeats 4000000 in
set_option maxRecDepth 100000 in
theorem c_X2_addCourse_2 (l : Launch) (hst : l.stackTraces = false) (G : Gx) (q : Nat → Nat) (n nc t : Nat) (fl fd : Int32) (k : Nat → Int32) (wd : Nat → Nat → Nat) (wf : Nat → Nat → Int32) (wa : Nat → Nat → Nat → Int32) (cd : Nat → Nat) (cf : Nat → Nat → Int32) (w x y z : Int32) (h : (w < 1 ∨ 8 < w) ∨ ((1 ≤ w ∧ w ≤ 8) ∧ (x < 0 ∨ 200 < x)) ∨ ((1 ≤ w ∧ w ≤ 8 ∧ 0 ≤ x ∧ x ≤ 200) ∧ (y < x ∨ 200 < y)) ∨ ((1 ≤ w ∧ w ≤ 8 ∧ 0 ≤ x ∧ x ≤ 200 ∧ x ≤ y ∧ y ≤ 200) ∧ (z < 1 ∨ 40 < z))) : MX l yX2_addCourse wsX2_addCourse ({ frames := 7, cells := 1, slots := 6, locals := 110 } : Room) [.ref (q 0), .int w, .int x, .int y, .int z] G (sW G q n nc t fl fd k wd wf wa cd cf) "java/lang/IllegalArgumentException" := by
  refine ofMX (cc := cX2_addCourse) (maxL := 6) (ret := (some .int)) (by decide) rfl (Nat.le_of_ble_eq_true rfl) (fun p e s m below meth c A ls F htb hH hl => ?_)
  have F : Fx G p s m _ meth c cX2_addCourse 6 wsX2_addCourse RX2 A := F
  have hx := F.1.1
  have hb := F.1.2.1
  have hl : lv_has ls 6 [(0, .ref (q 0)), (1, .int w), (2, .int x), (3, .int y), (4, .int z)] := hl
  rcases h with h | ⟨⟨g1, g2⟩, h⟩ | ⟨⟨g1, g2, g3, g4⟩, h⟩ | ⟨⟨g1, g2, g3, g4, g5, g6⟩, h⟩
  · refine lv_iload_n hx hb dX2_addCourse_0 rfl (lv_at hl 1 rfl) ?_
    refine lv_iconst (v := 1) hx hb dX2_addCourse_1 (by decide) ?_
    refine lv_bipush (v := 8) hx hb dX2_addCourse_2 (by decide) ?_
    refine callSI0 (rest := []) F (c_X2_isWithin_0 l G _ w 1 8 h) gX2_addCourse_X2_isWithin rfl hdX2_isWithin ⟨Nat.le_of_ble_eq_true rfl, Nat.le_of_ble_eq_true rfl⟩ hH rfl hl.1 (Nat.le_of_ble_eq_true rfl) dX2_addCourse_4 ⟨Nat.le_of_ble_eq_true rfl, Nat.le_of_ble_eq_true rfl⟩ rfl (fun u H locs hH => ?_)
    have hH : HH G A s (sW G q n nc t fl fd k wd wf wa cd cf) H locs := hH
    refine lv_if_eq (tgt := 33) hx hb dX2_addCourse_7 (by decide) (fun c_7 => ?_) (fun c_7 => absurd rfl c_7)
    refine lv_iconst (v := 0) hx hb dX2_addCourse_33 (by decide) ?_
    exact callSX0 (rest := []) F (c_X2_requireArgument_0 l hst G _) gX2_addCourse_X2_requireArgument rfl hdX2_requireArgument ⟨Nat.le_of_ble_eq_true rfl, Nat.le_of_ble_eq_true rfl⟩ hH rfl hl.1 (Nat.le_of_ble_eq_true rfl) dX2_addCourse_34 ⟨Nat.le_of_ble_eq_true rfl, Nat.le_of_ble_eq_true rfl⟩ rfl htb (Nat.le_of_ble_eq_true rfl) (Nat.le_of_ble_eq_true rfl)
  · refine lv_iload_n hx hb dX2_addCourse_0 rfl (lv_at hl 1 rfl) ?_
    refine lv_iconst (v := 1) hx hb dX2_addCourse_1 (by decide) ?_
    refine lv_bipush (v := 8) hx hb dX2_addCourse_2 (by decide) ?_
    refine callSI0 (rest := []) F (c_X2_isWithin_1 l G _ w 1 8 g1 g2) gX2_addCourse_X2_isWithin rfl hdX2_isWithin ⟨Nat.le_of_ble_eq_true rfl, Nat.le_of_ble_eq_true rfl⟩ hH rfl hl.1 (Nat.le_of_ble_eq_true rfl) dX2_addCourse_4 ⟨Nat.le_of_ble_eq_true rfl, Nat.le_of_ble_eq_true rfl⟩ rfl (fun u H locs hH => ?_)
    have hH : HH G A s (sW G q n nc t fl fd k wd wf wa cd cf) H locs := hH
    refine lv_if_eq (tgt := 33) hx hb dX2_addCourse_7 (by decide) (fun c_7 => absurd c_7 (by decide)) (fun c_7 => ?_)
    refine lv_iload_n hx hb dX2_addCourse_10 rfl (lv_at hl 2 rfl) ?_
    refine lv_iload_n hx hb dX2_addCourse_11 rfl (lv_at hl 3 rfl) ?_
    refine callSI0 (rest := []) F (c_X2_isSpan_0 l G _ x y h) gX2_addCourse_X2_isSpan rfl hdX2_isSpan ⟨Nat.le_of_ble_eq_true rfl, Nat.le_of_ble_eq_true rfl⟩ hH rfl hl.1 (Nat.le_of_ble_eq_true rfl) dX2_addCourse_12 ⟨Nat.le_of_ble_eq_true rfl, Nat.le_of_ble_eq_true rfl⟩ rfl (fun u H locs hH => ?_)
    have hH : HH G A s (sW G q n nc t fl fd k wd wf wa cd cf) H locs := hH
    refine lv_if_eq (tgt := 33) hx hb dX2_addCourse_15 (by decide) (fun c_15 => ?_) (fun c_15 => absurd rfl c_15)
    refine lv_iconst (v := 0) hx hb dX2_addCourse_33 (by decide) ?_
    exact callSX0 (rest := []) F (c_X2_requireArgument_0 l hst G _) gX2_addCourse_X2_requireArgument rfl hdX2_requireArgument ⟨Nat.le_of_ble_eq_true rfl, Nat.le_of_ble_eq_true rfl⟩ hH rfl hl.1 (Nat.le_of_ble_eq_true rfl) dX2_addCourse_34 ⟨Nat.le_of_ble_eq_true rfl, Nat.le_of_ble_eq_true rfl⟩ rfl htb (Nat.le_of_ble_eq_true rfl) (Nat.le_of_ble_eq_true rfl)
  · refine lv_iload_n hx hb dX2_addCourse_0 rfl (lv_at hl 1 rfl) ?_
    refine lv_iconst (v := 1) hx hb dX2_addCourse_1 (by decide) ?_
    refine lv_bipush (v := 8) hx hb dX2_addCourse_2 (by decide) ?_
    refine callSI0 (rest := []) F (c_X2_isWithin_1 l G _ w 1 8 g1 g2) gX2_addCourse_X2_isWithin rfl hdX2_isWithin ⟨Nat.le_of_ble_eq_true rfl, Nat.le_of_ble_eq_true rfl⟩ hH rfl hl.1 (Nat.le_of_ble_eq_true rfl) dX2_addCourse_4 ⟨Nat.le_of_ble_eq_true rfl, Nat.le_of_ble_eq_true rfl⟩ rfl (fun u H locs hH => ?_)
    have hH : HH G A s (sW G q n nc t fl fd k wd wf wa cd cf) H locs := hH
    refine lv_if_eq (tgt := 33) hx hb dX2_addCourse_7 (by decide) (fun c_7 => absurd c_7 (by decide)) (fun c_7 => ?_)
    refine lv_iload_n hx hb dX2_addCourse_10 rfl (lv_at hl 2 rfl) ?_
    refine lv_iload_n hx hb dX2_addCourse_11 rfl (lv_at hl 3 rfl) ?_
    refine callSI0 (rest := []) F (c_X2_isSpan_00 l G _ x y g3 g4 h) gX2_addCourse_X2_isSpan rfl hdX2_isSpan ⟨Nat.le_of_ble_eq_true rfl, Nat.le_of_ble_eq_true rfl⟩ hH rfl hl.1 (Nat.le_of_ble_eq_true rfl) dX2_addCourse_12 ⟨Nat.le_of_ble_eq_true rfl, Nat.le_of_ble_eq_true rfl⟩ rfl (fun u H locs hH => ?_)
    have hH : HH G A s (sW G q n nc t fl fd k wd wf wa cd cf) H locs := hH
    refine lv_if_eq (tgt := 33) hx hb dX2_addCourse_15 (by decide) (fun c_15 => ?_) (fun c_15 => absurd rfl c_15)
    refine lv_iconst (v := 0) hx hb dX2_addCourse_33 (by decide) ?_
    exact callSX0 (rest := []) F (c_X2_requireArgument_0 l hst G _) gX2_addCourse_X2_requireArgument rfl hdX2_requireArgument ⟨Nat.le_of_ble_eq_true rfl, Nat.le_of_ble_eq_true rfl⟩ hH rfl hl.1 (Nat.le_of_ble_eq_true rfl) dX2_addCourse_34 ⟨Nat.le_of_ble_eq_true rfl, Nat.le_of_ble_eq_true rfl⟩ rfl htb (Nat.le_of_ble_eq_true rfl) (Nat.le_of_ble_eq_true rfl)
  · refine lv_iload_n hx hb dX2_addCourse_0 rfl (lv_at hl 1 rfl) ?_
    refine lv_iconst (v := 1) hx hb dX2_addCourse_1 (by decide) ?_
    refine lv_bipush (v := 8) hx hb dX2_addCourse_2 (by decide) ?_
    refine callSI0 (rest := []) F (c_X2_isWithin_1 l G _ w 1 8 g1 g2) gX2_addCourse_X2_isWithin rfl hdX2_isWithin ⟨Nat.le_of_ble_eq_true rfl, Nat.le_of_ble_eq_true rfl⟩ hH rfl hl.1 (Nat.le_of_ble_eq_true rfl) dX2_addCourse_4 ⟨Nat.le_of_ble_eq_true rfl, Nat.le_of_ble_eq_true rfl⟩ rfl (fun u H locs hH => ?_)
    have hH : HH G A s (sW G q n nc t fl fd k wd wf wa cd cf) H locs := hH
    refine lv_if_eq (tgt := 33) hx hb dX2_addCourse_7 (by decide) (fun c_7 => absurd c_7 (by decide)) (fun c_7 => ?_)
    refine lv_iload_n hx hb dX2_addCourse_10 rfl (lv_at hl 2 rfl) ?_
    refine lv_iload_n hx hb dX2_addCourse_11 rfl (lv_at hl 3 rfl) ?_
    refine callSI0 (rest := []) F (c_X2_isSpan_1 l G _ x y g3 g4 g5 g6) gX2_addCourse_X2_isSpan rfl hdX2_isSpan ⟨Nat.le_of_ble_eq_true rfl, Nat.le_of_ble_eq_true rfl⟩ hH rfl hl.1 (Nat.le_of_ble_eq_true rfl) dX2_addCourse_12 ⟨Nat.le_of_ble_eq_true rfl, Nat.le_of_ble_eq_true rfl⟩ rfl (fun u H locs hH => ?_)
    have hH : HH G A s (sW G q n nc t fl fd k wd wf wa cd cf) H locs := hH
    refine lv_if_eq (tgt := 33) hx hb dX2_addCourse_15 (by decide) (fun c_15 => absurd c_15 (by decide)) (fun c_15 => ?_)
    refine lv_iload hx hb dX2_addCourse_18 (lv_at hl 4 rfl) ?_
    refine lv_iconst (v := 1) hx hb dX2_addCourse_20 (by decide) ?_
    refine lv_bipush (v := 40) hx hb dX2_addCourse_21 (by decide) ?_
    refine callSI0 (rest := []) F (c_X2_isWithin_0 l G _ z 1 40 h) gX2_addCourse_X2_isWithin rfl hdX2_isWithin ⟨Nat.le_of_ble_eq_true rfl, Nat.le_of_ble_eq_true rfl⟩ hH rfl hl.1 (Nat.le_of_ble_eq_true rfl) dX2_addCourse_23 ⟨Nat.le_of_ble_eq_true rfl, Nat.le_of_ble_eq_true rfl⟩ rfl (fun u H locs hH => ?_)
    have hH : HH G A s (sW G q n nc t fl fd k wd wf wa cd cf) H locs := hH
    refine lv_if_eq (tgt := 33) hx hb dX2_addCourse_26 (by decide) (fun c_26 => ?_) (fun c_26 => absurd rfl c_26)
    refine lv_iconst (v := 0) hx hb dX2_addCourse_33 (by decide) ?_
    exact callSX0 (rest := []) F (c_X2_requireArgument_0 l hst G _) gX2_addCourse_X2_requireArgument rfl hdX2_requireArgument ⟨Nat.le_of_ble_eq_true rfl, Nat.le_of_ble_eq_true rfl⟩ hH rfl hl.1 (Nat.le_of_ble_eq_true rfl) dX2_addCourse_34 ⟨Nat.le_of_ble_eq_true rfl, Nat.le_of_ble_eq_true rfl⟩ rfl htb (Nat.le_of_ble_eq_true rfl) (Nat.le_of_ble_eq_true rfl)

set_option maxHeartbeats 4000000 in
set_option maxRecDepth 100000 in
theorem c_X2_addCourse_3 (l : Launch) (hst : l.stackTraces = false) (G : Gx) (q : Nat → Nat) (n nc t : Nat) (fl fd : Int32) (k : Nat → Int32) (wd : Nat → Nat → Nat) (wf : Nat → Nat → Int32) (wa : Nat → Nat → Nat → Int32) (cd : Nat → Nat) (cf : Nat → Nat → Int32) (hnc : nc = 10) (w x y z : Int32) (h : 1 ≤ w ∧ w ≤ 8 ∧ 0 ≤ x ∧ x ≤ 200 ∧ x ≤ y ∧ y ≤ 200 ∧ 1 ≤ z ∧ z ≤ 40) : MX l yX2_addCourse wsX2_addCourse ({ frames := 7, cells := 1, slots := 6, locals := 110 } : Room) [.ref (q 0), .int w, .int x, .int y, .int z] G (sW G q n nc t fl fd k wd wf wa cd cf) "java/lang/IllegalStateException" := by
  refine ofMX (cc := cX2_addCourse) (maxL := 6) (ret := (some .int)) (by decide) rfl (Nat.le_of_ble_eq_true rfl) (fun p e s m below meth c A ls F htb hH hl => ?_)
  have F : Fx G p s m _ meth c cX2_addCourse 6 wsX2_addCourse RX2 A := F
  have hx := F.1.1
  have hb := F.1.2.1
  have hl : lv_has ls 6 [(0, .ref (q 0)), (1, .int w), (2, .int x), (3, .int y), (4, .int z)] := hl
  obtain ⟨g1, g2, g3, g4, g5, g6, g7, g8⟩ := h
  · refine lv_iload_n hx hb dX2_addCourse_0 rfl (lv_at hl 1 rfl) ?_
    refine lv_iconst (v := 1) hx hb dX2_addCourse_1 (by decide) ?_
    refine lv_bipush (v := 8) hx hb dX2_addCourse_2 (by decide) ?_
    refine callSI0 (rest := []) F (c_X2_isWithin_1 l G _ w 1 8 g1 g2) gX2_addCourse_X2_isWithin rfl hdX2_isWithin ⟨Nat.le_of_ble_eq_true rfl, Nat.le_of_ble_eq_true rfl⟩ hH rfl hl.1 (Nat.le_of_ble_eq_true rfl) dX2_addCourse_4 ⟨Nat.le_of_ble_eq_true rfl, Nat.le_of_ble_eq_true rfl⟩ rfl (fun u H locs hH => ?_)
    have hH : HH G A s (sW G q n nc t fl fd k wd wf wa cd cf) H locs := hH
    refine lv_if_eq (tgt := 33) hx hb dX2_addCourse_7 (by decide) (fun c_7 => absurd c_7 (by decide)) (fun c_7 => ?_)
    refine lv_iload_n hx hb dX2_addCourse_10 rfl (lv_at hl 2 rfl) ?_
    refine lv_iload_n hx hb dX2_addCourse_11 rfl (lv_at hl 3 rfl) ?_
    refine callSI0 (rest := []) F (c_X2_isSpan_1 l G _ x y g3 g4 g5 g6) gX2_addCourse_X2_isSpan rfl hdX2_isSpan ⟨Nat.le_of_ble_eq_true rfl, Nat.le_of_ble_eq_true rfl⟩ hH rfl hl.1 (Nat.le_of_ble_eq_true rfl) dX2_addCourse_12 ⟨Nat.le_of_ble_eq_true rfl, Nat.le_of_ble_eq_true rfl⟩ rfl (fun u H locs hH => ?_)
    have hH : HH G A s (sW G q n nc t fl fd k wd wf wa cd cf) H locs := hH
    refine lv_if_eq (tgt := 33) hx hb dX2_addCourse_15 (by decide) (fun c_15 => absurd c_15 (by decide)) (fun c_15 => ?_)
    refine lv_iload hx hb dX2_addCourse_18 (lv_at hl 4 rfl) ?_
    refine lv_iconst (v := 1) hx hb dX2_addCourse_20 (by decide) ?_
    refine lv_bipush (v := 40) hx hb dX2_addCourse_21 (by decide) ?_
    refine callSI0 (rest := []) F (c_X2_isWithin_1 l G _ z 1 40 g7 g8) gX2_addCourse_X2_isWithin rfl hdX2_isWithin ⟨Nat.le_of_ble_eq_true rfl, Nat.le_of_ble_eq_true rfl⟩ hH rfl hl.1 (Nat.le_of_ble_eq_true rfl) dX2_addCourse_23 ⟨Nat.le_of_ble_eq_true rfl, Nat.le_of_ble_eq_true rfl⟩ rfl (fun u H locs hH => ?_)
    have hH : HH G A s (sW G q n nc t fl fd k wd wf wa cd cf) H locs := hH
    refine lv_if_eq (tgt := 33) hx hb dX2_addCourse_26 (by decide) (fun c_26 => absurd c_26 (by decide)) (fun c_26 => ?_)
    refine lv_iconst (v := 1) hx hb dX2_addCourse_29 (by decide) ?_
    refine lv_goto (tgt := 34) hx hb dX2_addCourse_30 (by decide) ?_
    refine callSV0 (rest := []) F (c_X2_requireArgument_1 l G _) gX2_addCourse_X2_requireArgument rfl hdX2_requireArgument ⟨Nat.le_of_ble_eq_true rfl, Nat.le_of_ble_eq_true rfl⟩ hH rfl hl.1 (Nat.le_of_ble_eq_true rfl) dX2_addCourse_34 ⟨Nat.le_of_ble_eq_true rfl, Nat.le_of_ble_eq_true rfl⟩ rfl (fun u H locs hH => ?_)
    have hH : HH G A s (sW G q n nc t fl fd k wd wf wa cd cf) H locs := hH
    refine lv_aload_n hx hb dX2_addCourse_37 rfl (lv_at hl 0 rfl) ?_
    refine rget (C := RX2) (T := TX2) (N := 8) (ref := RX2) F in_X2_addCourse_X2 hH 0 rfl rfl 4 (by decide) (by decide +kernel) (fun _ h9 => h9) (v := .int (nI nc)) rfl dX2_addCourse_38 ?_
    refine lv_bipush (v := 10) hx hb dX2_addCourse_41 (by decide) ?_
    refine lv_icmp_ge (tgt := 50) hx hb dX2_addCourse_43 (by decide) (fun c_43 => ?_) (fun c_43 => absurd (by rw [hnc]; decide) c_43)
    refine lv_iconst (v := 0) hx hb dX2_addCourse_50 (by decide) ?_
    exact callSX0 (rest := []) F (c_X2_requireState_0 l hst G _) gX2_addCourse_X2_requireState rfl hdX2_requireState ⟨Nat.le_of_ble_eq_true rfl, Nat.le_of_ble_eq_true rfl⟩ hH rfl hl.1 (Nat.le_of_ble_eq_true rfl) dX2_addCourse_51 ⟨Nat.le_of_ble_eq_true rfl, Nat.le_of_ble_eq_true rfl⟩ rfl htb (Nat.le_of_ble_eq_true rfl) (Nat.le_of_ble_eq_true rfl)

