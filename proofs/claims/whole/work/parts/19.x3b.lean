set_option maxHeartbeats 4000000 in
set_option maxRecDepth 100000 in
theorem c_X3_notice_1 (l : Launch) (G : Gx) (q : Nat → Nat) (f : Nat → Int32) (a : Nat → Nat → Int32) (n : Nat) (e0 : f 0 = nI n) (hn : n ≤ 8) (i : Nat) (hi : i < n) (t : Nat) (e16 : f 16 = nI t) (ht : t ≤ 201) (cn : Nat) (e3 : a 3 i = nI cn) (hcn : cn < 30) (x y : Nat) (hxy : x ≤ y) (hy : y ≤ 200) (h : Int32) (h1 : 0 ≤ h) (h2 : h ≤ 40) (htx : t + 2 ≤ x) : MI l yX3_notice wsX3_notice ({ frames := 1, cells := 0, slots := 0, locals := 22 } : Room) [.ref (q 0), .int (nI i), .int (nI x), .int (nI y), .int h] G (mW G q f a) (fun u => mW G q (va_up f 24 0) (va_up (va_up (va_up (va_up a 4 (upd (a 4) (30 * i + cn) (nI x))) 5 (upd (a 5) (30 * i + cn) (nI y))) 6 (upd (a 6) (30 * i + cn) h)) 3 (upd (a 3) i ((a 3 i) + 1)))) (nI (cn + 1)) := by
  refine ofMI (cc := cX3_notice) (maxL := 6) (ret := (some .int)) (by decide) rfl (Nat.le_of_ble_eq_true rfl) (fun p e s m below meth c A ls F hr hnm hH hl => ?_)
  have F : Fx G p s m _ meth c cX3_notice 6 wsX3_notice RX3 A := F
  have hx := F.1.1
  have hb := F.1.2.1
  have hl : lv_has ls 6 [(0, .ref (q 0)), (1, .int (nI i)), (2, .int (nI x)), (3, .int (nI y)), (4, .int h)] := hl
  refine lv_aload_n hx hb dX3_notice_0 rfl (lv_at hl 0 rfl) ?_
  refine lv_aload_n hx hb dX3_notice_1 rfl (lv_at hl 0 rfl) ?_
  refine lv_iload_n hx hb dX3_notice_2 rfl (lv_at hl 1 rfl) ?_
  refine callVI0 (rest := [.ref (q 0)]) F (c_X3_isWorker_1 l G q f a n e0 hn i hi) gX3_notice_X3_isWorker rfl hdX3_isWorker ⟨Nat.le_of_ble_eq_true rfl, Nat.le_of_ble_eq_true rfl⟩ hH ⟨0, 3, _, _, rfl, rfl, rfl⟩ rfl hl.1 (Nat.le_of_ble_eq_true rfl) dX3_notice_3 ⟨Nat.le_of_ble_eq_true rfl, Nat.le_of_ble_eq_true rfl⟩ rfl (fun u H locs hH => ?_)
  have hH : HH G A s (mW G q f a) H locs := hH
  refine callVI0 (rest := []) F (c_X3_asks_1 l G q f a) gX3_notice_X3_asks rfl hdX3_asks ⟨Nat.le_of_ble_eq_true rfl, Nat.le_of_ble_eq_true rfl⟩ hH ⟨0, 3, _, _, rfl, rfl, rfl⟩ rfl hl.1 (Nat.le_of_ble_eq_true rfl) dX3_notice_6 ⟨Nat.le_of_ble_eq_true rfl, Nat.le_of_ble_eq_true rfl⟩ rfl (fun u H locs hH => ?_)
  have hH : HH G A s (mW G q (va_up f 24 0) a) H locs := hH
  refine lv_if_ne (tgt := 14) hx hb dX3_notice_9 (by decide) (fun c_9 => ?_) (fun c_9 => absurd c_9 (by decide))
  refine lv_iload_n hx hb dX3_notice_14 rfl (lv_at hl 2 rfl) ?_
  refine lv_iconst (v := 0) hx hb dX3_notice_15 (by decide) ?_
  refine lv_sipush (v := 200) hx hb dX3_notice_16 (by decide) ?_
  refine callSI0 (rest := []) F (c_X3_in_1 l G _ (nI x) 0 200 (nI_pos' (by omega)) (nI_le (a := x) (b := 200) (by omega) (by decide))) gX3_notice_X3_in rfl hdX3_in ⟨Nat.le_of_ble_eq_true rfl, Nat.le_of_ble_eq_true rfl⟩ hH rfl hl.1 (Nat.le_of_ble_eq_true rfl) dX3_notice_19 ⟨Nat.le_of_ble_eq_true rfl, Nat.le_of_ble_eq_true rfl⟩ rfl (fun u H locs hH => ?_)
  have hH : HH G A s (mW G q (va_up f 24 0) a) H locs := hH
  refine lv_if_eq (tgt := 47) hx hb dX3_notice_22 (by decide) (fun c_22 => absurd c_22 (by decide)) (fun c_22 => ?_)
  refine lv_iload_n hx hb dX3_notice_25 rfl (lv_at hl 3 rfl) ?_
  refine lv_iload_n hx hb dX3_notice_26 rfl (lv_at hl 2 rfl) ?_
  refine lv_sipush (v := 200) hx hb dX3_notice_27 (by decide) ?_
  refine callSI0 (rest := []) F (c_X3_in_1 l G _ (nI y) (nI x) 200 (nI_le hxy (by omega)) (nI_le (a := y) (b := 200) hy (by decide))) gX3_notice_X3_in rfl hdX3_in ⟨Nat.le_of_ble_eq_true rfl, Nat.le_of_ble_eq_true rfl⟩ hH rfl hl.1 (Nat.le_of_ble_eq_true rfl) dX3_notice_30 ⟨Nat.le_of_ble_eq_true rfl, Nat.le_of_ble_eq_true rfl⟩ rfl (fun u H locs hH => ?_)
  have hH : HH G A s (mW G q (va_up f 24 0) a) H locs := hH
  refine lv_if_eq (tgt := 47) hx hb dX3_notice_33 (by decide) (fun c_33 => absurd c_33 (by decide)) (fun c_33 => ?_)
  refine lv_iload hx hb dX3_notice_36 (lv_at hl 4 rfl) ?_
  refine lv_iconst (v := 0) hx hb dX3_notice_38 (by decide) ?_
  refine lv_bipush (v := 40) hx hb dX3_notice_39 (by decide) ?_
  refine callSI0 (rest := []) F (c_X3_in_1 l G _ h 0 40 h1 h2) gX3_notice_X3_in rfl hdX3_in ⟨Nat.le_of_ble_eq_true rfl, Nat.le_of_ble_eq_true rfl⟩ hH rfl hl.1 (Nat.le_of_ble_eq_true rfl) dX3_notice_41 ⟨Nat.le_of_ble_eq_true rfl, Nat.le_of_ble_eq_true rfl⟩ rfl (fun u H locs hH => ?_)
  have hH : HH G A s (mW G q (va_up f 24 0) a) H locs := hH
  refine lv_if_ne (tgt := 53) hx hb dX3_notice_44 (by decide) (fun c_44 => ?_) (fun c_44 => absurd c_44 (by decide))
  refine lv_iload_n hx hb dX3_notice_53 rfl (lv_at hl 2 rfl) ?_
  refine lv_aload_n hx hb dX3_notice_54 rfl (lv_at hl 0 rfl) ?_
  refine rget (C := RX3) (T := TX3) (N := 25) (ref := RX3) F in_X3_notice_X3 hH 0 rfl rfl 16 (by decide) (by decide +kernel) (fun _ h9 => h9) (v := .int (f 16)) rfl dX3_notice_55 ?_
  refine lv_iconst (v := 2) hx hb dX3_notice_58 (by decide) ?_
  refine lv_iadd hx hb dX3_notice_59 ?_
  refine lv_icmp_lt (tgt := 74) hx hb dX3_notice_60 (by decide) (fun c_60 => absurd c_60 (by rw [e16, nI_2]; exact nI_nlt htx (by omega))) (fun c_60 => ?_)
  refine lv_aload_n hx hb dX3_notice_63 rfl (lv_at hl 0 rfl) ?_
  refine rget (C := RX3) (T := TX3) (N := 25) (ref := RX3) F in_X3_notice_X3 hH 0 rfl rfl 3 (by decide) (by decide +kernel) (fun _ h9 => h9) (v := .ref (q 3)) rfl dX3_notice_64 ?_
  refine lv_iload_n hx hb dX3_notice_67 rfl (lv_at hl 1 rfl) ?_
  refine riald F hH 3 (n := 8) (f := a 3) rfl i rfl (by omega) (by decide) dX3_notice_68 ?_
  refine lv_bipush (v := 30) hx hb dX3_notice_69 (by decide) ?_
  refine lv_icmp_ne (tgt := 80) hx hb dX3_notice_71 (by decide) (fun c_71 => ?_) (fun c_71 => absurd c_71 (by rw [e3]; exact ne30 hcn))
  refine lv_bipush (v := 30) hx hb dX3_notice_80 (by decide) ?_
  refine lv_iload_n hx hb dX3_notice_82 rfl (lv_at hl 1 rfl) ?_
  refine lv_imul hx hb dX3_notice_83 ?_
  refine lv_aload_n hx hb dX3_notice_84 rfl (lv_at hl 0 rfl) ?_
  refine rget (C := RX3) (T := TX3) (N := 25) (ref := RX3) F in_X3_notice_X3 hH 0 rfl rfl 3 (by decide) (by decide +kernel) (fun _ h9 => h9) (v := .ref (q 3)) rfl dX3_notice_85 ?_
  refine lv_iload_n hx hb dX3_notice_88 rfl (lv_at hl 1 rfl) ?_
  refine riald F hH 3 (n := 8) (f := a 3) rfl i rfl (by omega) (by decide) dX3_notice_89 ?_
  refine lv_iadd hx hb dX3_notice_90 ?_
  refine lv_istore (lv' := [(5, .int ((30 * (nI i)) + (a 3 i))), (0, .ref (q 0)), (1, .int (nI i)), (2, .int (nI x)), (3, .int (nI y)), (4, .int h)]) hx hb dX3_notice_91 hl (by decide) rfl (fun ls hl => ?_)
  refine lv_aload_n hx hb dX3_notice_93 rfl (lv_at hl 1 rfl) ?_
  refine rget (C := RX3) (T := TX3) (N := 25) (ref := RX3) F in_X3_notice_X3 hH 0 rfl rfl 4 (by decide) (by decide +kernel) (fun _ h9 => h9) (v := .ref (q 4)) rfl dX3_notice_94 ?_
  refine lv_iload hx hb dX3_notice_97 (lv_at hl 0 rfl) ?_
  refine lv_iload_n hx hb dX3_notice_99 rfl (lv_at hl 3 rfl) ?_
  refine riast F hH 4 (n := 240) (f := a 4) rfl (30 * i + cn) (by rw [e3, ix30]) (by omega) (by decide) dX3_notice_100 (fun H locs hH => ?_)
  have hH : HH G A s (mW G q (va_up f 24 0) (va_up a 4 (upd (a 4) (30 * i + cn) (nI x)))) H locs := hH
  refine lv_aload_n hx hb dX3_notice_101 rfl (lv_at hl 1 rfl) ?_
  refine rget (C := RX3) (T := TX3) (N := 25) (ref := RX3) F in_X3_notice_X3 hH 0 rfl rfl 5 (by decide) (by decide +kernel) (fun _ h9 => h9) (v := .ref (q 5)) rfl dX3_notice_102 ?_
  refine lv_iload hx hb dX3_notice_105 (lv_at hl 0 rfl) ?_
  refine lv_iload_n hx hb dX3_notice_107 rfl (lv_at hl 4 rfl) ?_
  refine riast F hH 5 (n := 240) (f := a 5) rfl (30 * i + cn) (by rw [e3, ix30]) (by omega) (by decide) dX3_notice_108 (fun H locs hH => ?_)
  have hH : HH G A s (mW G q (va_up f 24 0) (va_up (va_up a 4 (upd (a 4) (30 * i + cn) (nI x))) 5 (upd (a 5) (30 * i + cn) (nI y)))) H locs := hH
  refine lv_aload_n hx hb dX3_notice_109 rfl (lv_at hl 1 rfl) ?_
  refine rget (C := RX3) (T := TX3) (N := 25) (ref := RX3) F in_X3_notice_X3 hH 0 rfl rfl 6 (by decide) (by decide +kernel) (fun _ h9 => h9) (v := .ref (q 6)) rfl dX3_notice_110 ?_
  refine lv_iload hx hb dX3_notice_113 (lv_at hl 0 rfl) ?_
  refine lv_iload hx hb dX3_notice_115 (lv_at hl 5 rfl) ?_
  refine riast F hH 6 (n := 240) (f := a 6) rfl (30 * i + cn) (by rw [e3, ix30]) (by omega) (by decide) dX3_notice_117 (fun H locs hH => ?_)
  have hH : HH G A s (mW G q (va_up f 24 0) (va_up (va_up (va_up a 4 (upd (a 4) (30 * i + cn) (nI x))) 5 (upd (a 5) (30 * i + cn) (nI y))) 6 (upd (a 6) (30 * i + cn) h))) H locs := hH
  refine lv_aload_n hx hb dX3_notice_118 rfl (lv_at hl 1 rfl) ?_
  refine rget (C := RX3) (T := TX3) (N := 25) (ref := RX3) F in_X3_notice_X3 hH 0 rfl rfl 3 (by decide) (by decide +kernel) (fun _ h9 => h9) (v := .ref (q 3)) rfl dX3_notice_119 ?_
  refine lv_iload_n hx hb dX3_notice_122 rfl (lv_at hl 2 rfl) ?_
  refine lv_dup2_11 hx hb dX3_notice_123 rfl rfl ?_
  refine riald F hH 3 (n := 8) (f := a 3) rfl i rfl (by omega) (by decide) dX3_notice_124 ?_
  refine lv_iconst (v := 1) hx hb dX3_notice_125 (by decide) ?_
  refine lv_iadd hx hb dX3_notice_126 ?_
  refine riast F hH 3 (n := 8) (f := a 3) rfl i rfl (by omega) (by decide) dX3_notice_127 (fun H locs hH => ?_)
  have hH : HH G A s (mW G q (va_up f 24 0) (va_up (va_up (va_up (va_up a 4 (upd (a 4) (30 * i + cn) (nI x))) 5 (upd (a 5) (30 * i + cn) (nI y))) 6 (upd (a 6) (30 * i + cn) h)) 3 (upd (a 3) i ((a 3 i) + 1)))) H locs := hH
  refine lv_aload_n hx hb dX3_notice_128 rfl (lv_at hl 1 rfl) ?_
  refine rget (C := RX3) (T := TX3) (N := 25) (ref := RX3) F in_X3_notice_X3 hH 0 rfl rfl 3 (by decide) (by decide +kernel) (fun _ h9 => h9) (v := .ref (q 3)) rfl dX3_notice_129 ?_
  refine lv_iload_n hx hb dX3_notice_132 rfl (lv_at hl 2 rfl) ?_
  refine riald F hH 3 (n := 8) (f := upd (a 3) i ((a 3 i) + 1)) rfl i rfl (by omega) (by decide) dX3_notice_133 ?_
  exact retI F hr rfl (fun _ => 0) hH (by rw [pk_us, e3, nI_1]) (Nat.le_of_ble_eq_true rfl) (Nat.le_of_ble_eq_true rfl) dX3_notice_134

set_option maxHeartbeats 4000000 in
set_option maxRecDepth 100000 in
theorem c_X3_notice_2 (l : Launch) (G : Gx) (q : Nat → Nat) (f : Nat → Int32) (a : Nat → Nat → Int32) (n : Nat) (e0 : f 0 = nI n) (hn : n ≤ 8) (i : Nat) (hi : i < n) (x y z : Int32) (h : (x < 0 ∨ 200 < x) ∨ ((0 ≤ x ∧ x ≤ 200) ∧ (y < x ∨ 200 < y)) ∨ ((0 ≤ x ∧ x ≤ 200 ∧ x ≤ y ∧ y ≤ 200) ∧ (z < 0 ∨ 40 < z))) : MI l yX3_notice wsX3_notice ({ frames := 1, cells := 0, slots := 0, locals := 22 } : Room) [.ref (q 0), .int (nI i), .int x, .int y, .int z] G (mW G q f a) (fun u => mW G q (va_up f 24 2) a) 0 := by
  refine ofMI (cc := cX3_notice) (maxL := 6) (ret := (some .int)) (by decide) rfl (Nat.le_of_ble_eq_true rfl) (fun p e s m below meth c A ls F hr hnm hH hl => ?_)
  have F : Fx G p s m _ meth c cX3_notice 6 wsX3_notice RX3 A := F
  have hx := F.1.1
  have hb := F.1.2.1
  have hl : lv_has ls 6 [(0, .ref (q 0)), (1, .int (nI i)), (2, .int x), (3, .int y), (4, .int z)] := hl
  refine lv_aload_n hx hb dX3_notice_0 rfl (lv_at hl 0 rfl) ?_
  refine lv_aload_n hx hb dX3_notice_1 rfl (lv_at hl 0 rfl) ?_
  refine lv_iload_n hx hb dX3_notice_2 rfl (lv_at hl 1 rfl) ?_
  refine callVI0 (rest := [.ref (q 0)]) F (c_X3_isWorker_1 l G q f a n e0 hn i hi) gX3_notice_X3_isWorker rfl hdX3_isWorker ⟨Nat.le_of_ble_eq_true rfl, Nat.le_of_ble_eq_true rfl⟩ hH ⟨0, 3, _, _, rfl, rfl, rfl⟩ rfl hl.1 (Nat.le_of_ble_eq_true rfl) dX3_notice_3 ⟨Nat.le_of_ble_eq_true rfl, Nat.le_of_ble_eq_true rfl⟩ rfl (fun u H locs hH => ?_)
  have hH : HH G A s (mW G q f a) H locs := hH
  refine callVI0 (rest := []) F (c_X3_asks_1 l G q f a) gX3_notice_X3_asks rfl hdX3_asks ⟨Nat.le_of_ble_eq_true rfl, Nat.le_of_ble_eq_true rfl⟩ hH ⟨0, 3, _, _, rfl, rfl, rfl⟩ rfl hl.1 (Nat.le_of_ble_eq_true rfl) dX3_notice_6 ⟨Nat.le_of_ble_eq_true rfl, Nat.le_of_ble_eq_true rfl⟩ rfl (fun u H locs hH => ?_)
  have hH : HH G A s (mW G q (va_up f 24 0) a) H locs := hH
  refine lv_if_ne (tgt := 14) hx hb dX3_notice_9 (by decide) (fun c_9 => ?_) (fun c_9 => absurd c_9 (by decide))
  rcases h with h | ⟨⟨g1, g2⟩, h⟩ | ⟨⟨g1, g2, g3, g4⟩, h⟩
  · refine lv_iload_n hx hb dX3_notice_14 rfl (lv_at hl 2 rfl) ?_
    refine lv_iconst (v := 0) hx hb dX3_notice_15 (by decide) ?_
    refine lv_sipush (v := 200) hx hb dX3_notice_16 (by decide) ?_
    refine callSI0 (rest := []) F (c_X3_in_0 l G _ x 0 200 h) gX3_notice_X3_in rfl hdX3_in ⟨Nat.le_of_ble_eq_true rfl, Nat.le_of_ble_eq_true rfl⟩ hH rfl hl.1 (Nat.le_of_ble_eq_true rfl) dX3_notice_19 ⟨Nat.le_of_ble_eq_true rfl, Nat.le_of_ble_eq_true rfl⟩ rfl (fun u H locs hH => ?_)
    have hH : HH G A s (mW G q (va_up f 24 0) a) H locs := hH
    refine lv_if_eq (tgt := 47) hx hb dX3_notice_22 (by decide) (fun c_22 => ?_) (fun c_22 => absurd rfl c_22)
    refine lv_aload_n hx hb dX3_notice_47 rfl (lv_at hl 0 rfl) ?_
    refine lv_iconst (v := 2) hx hb dX3_notice_48 (by decide) ?_
    refine callVI0 (rest := []) F (c_X3_fails l G q (va_up f 24 0) a 2) gX3_notice_X3_fails rfl hdX3_fails ⟨Nat.le_of_ble_eq_true rfl, Nat.le_of_ble_eq_true rfl⟩ hH ⟨0, 3, _, _, rfl, rfl, rfl⟩ rfl hl.1 (Nat.le_of_ble_eq_true rfl) dX3_notice_49 ⟨Nat.le_of_ble_eq_true rfl, Nat.le_of_ble_eq_true rfl⟩ rfl (fun u H locs hH => ?_)
    have hH : HH G A s (mW G q (va_up f 24 2) a) H locs := hH
    exact retI F hr rfl (fun _ => 0) hH rfl (Nat.le_of_ble_eq_true rfl) (Nat.le_of_ble_eq_true rfl) dX3_notice_52
  · refine lv_iload_n hx hb dX3_notice_14 rfl (lv_at hl 2 rfl) ?_
    refine lv_iconst (v := 0) hx hb dX3_notice_15 (by decide) ?_
    refine lv_sipush (v := 200) hx hb dX3_notice_16 (by decide) ?_
    refine callSI0 (rest := []) F (c_X3_in_1 l G _ x 0 200 g1 g2) gX3_notice_X3_in rfl hdX3_in ⟨Nat.le_of_ble_eq_true rfl, Nat.le_of_ble_eq_true rfl⟩ hH rfl hl.1 (Nat.le_of_ble_eq_true rfl) dX3_notice_19 ⟨Nat.le_of_ble_eq_true rfl, Nat.le_of_ble_eq_true rfl⟩ rfl (fun u H locs hH => ?_)
    have hH : HH G A s (mW G q (va_up f 24 0) a) H locs := hH
    refine lv_if_eq (tgt := 47) hx hb dX3_notice_22 (by decide) (fun c_22 => absurd c_22 (by decide)) (fun c_22 => ?_)
    refine lv_iload_n hx hb dX3_notice_25 rfl (lv_at hl 3 rfl) ?_
    refine lv_iload_n hx hb dX3_notice_26 rfl (lv_at hl 2 rfl) ?_
    refine lv_sipush (v := 200) hx hb dX3_notice_27 (by decide) ?_
    refine callSI0 (rest := []) F (c_X3_in_0 l G _ y x 200 h) gX3_notice_X3_in rfl hdX3_in ⟨Nat.le_of_ble_eq_true rfl, Nat.le_of_ble_eq_true rfl⟩ hH rfl hl.1 (Nat.le_of_ble_eq_true rfl) dX3_notice_30 ⟨Nat.le_of_ble_eq_true rfl, Nat.le_of_ble_eq_true rfl⟩ rfl (fun u H locs hH => ?_)
    have hH : HH G A s (mW G q (va_up f 24 0) a) H locs := hH
    refine lv_if_eq (tgt := 47) hx hb dX3_notice_33 (by decide) (fun c_33 => ?_) (fun c_33 => absurd rfl c_33)
    refine lv_aload_n hx hb dX3_notice_47 rfl (lv_at hl 0 rfl) ?_
    refine lv_iconst (v := 2) hx hb dX3_notice_48 (by decide) ?_
    refine callVI0 (rest := []) F (c_X3_fails l G q (va_up f 24 0) a 2) gX3_notice_X3_fails rfl hdX3_fails ⟨Nat.le_of_ble_eq_true rfl, Nat.le_of_ble_eq_true rfl⟩ hH ⟨0, 3, _, _, rfl, rfl, rfl⟩ rfl hl.1 (Nat.le_of_ble_eq_true rfl) dX3_notice_49 ⟨Nat.le_of_ble_eq_true rfl, Nat.le_of_ble_eq_true rfl⟩ rfl (fun u H locs hH => ?_)
    have hH : HH G A s (mW G q (va_up f 24 2) a) H locs := hH
    exact retI F hr rfl (fun _ => 0) hH rfl (Nat.le_of_ble_eq_true rfl) (Nat.le_of_ble_eq_true rfl) dX3_notice_52
  · refine lv_iload_n hx hb dX3_notice_14 rfl (lv_at hl 2 rfl) ?_
    refine lv_iconst (v := 0) hx hb dX3_notice_15 (by decide) ?_
    refine lv_sipush (v := 200) hx hb dX3_notice_16 (by decide) ?_
    refine callSI0 (rest := []) F (c_X3_in_1 l G _ x 0 200 g1 g2) gX3_notice_X3_in rfl hdX3_in ⟨Nat.le_of_ble_eq_true rfl, Nat.le_of_ble_eq_true rfl⟩ hH rfl hl.1 (Nat.le_of_ble_eq_true rfl) dX3_notice_19 ⟨Nat.le_of_ble_eq_true rfl, Nat.le_of_ble_eq_true rfl⟩ rfl (fun u H locs hH => ?_)
    have hH : HH G A s (mW G q (va_up f 24 0) a) H locs := hH
    refine lv_if_eq (tgt := 47) hx hb dX3_notice_22 (by decide) (fun c_22 => absurd c_22 (by decide)) (fun c_22 => ?_)
    refine lv_iload_n hx hb dX3_notice_25 rfl (lv_at hl 3 rfl) ?_
    refine lv_iload_n hx hb dX3_notice_26 rfl (lv_at hl 2 rfl) ?_
    refine lv_sipush (v := 200) hx hb dX3_notice_27 (by decide) ?_
    refine callSI0 (rest := []) F (c_X3_in_1 l G _ y x 200 g3 g4) gX3_notice_X3_in rfl hdX3_in ⟨Nat.le_of_ble_eq_true rfl, Nat.le_of_ble_eq_true rfl⟩ hH rfl hl.1 (Nat.le_of_ble_eq_true rfl) dX3_notice_30 ⟨Nat.le_of_ble_eq_true rfl, Nat.le_of_ble_eq_true rfl⟩ rfl (fun u H locs hH => ?_)
    have hH : HH G A s (mW G q (va_up f 24 0) a) H locs := hH
    refine lv_if_eq (tgt := 47) hx hb dX3_notice_33 (by decide) (fun c_33 => absurd c_33 (by decide)) (fun c_33 => ?_)
    refine lv_iload hx hb dX3_notice_36 (lv_at hl 4 rfl) ?_
    refine lv_iconst (v := 0) hx hb dX3_notice_38 (by decide) ?_
    refine lv_bipush (v := 40) hx hb dX3_notice_39 (by decide) ?_
    refine callSI0 (rest := []) F (c_X3_in_0 l G _ z 0 40 h) gX3_notice_X3_in rfl hdX3_in ⟨Nat.le_of_ble_eq_true rfl, Nat.le_of_ble_eq_true rfl⟩ hH rfl hl.1 (Nat.le_of_ble_eq_true rfl) dX3_notice_41 ⟨Nat.le_of_ble_eq_true rfl, Nat.le_of_ble_eq_true rfl⟩ rfl (fun u H locs hH => ?_)
    have hH : HH G A s (mW G q (va_up f 24 0) a) H locs := hH
    refine lv_if_ne (tgt := 53) hx hb dX3_notice_44 (by decide) (fun c_44 => absurd rfl c_44) (fun c_44 => ?_)
    refine lv_aload_n hx hb dX3_notice_47 rfl (lv_at hl 0 rfl) ?_
    refine lv_iconst (v := 2) hx hb dX3_notice_48 (by decide) ?_
    refine callVI0 (rest := []) F (c_X3_fails l G q (va_up f 24 0) a 2) gX3_notice_X3_fails rfl hdX3_fails ⟨Nat.le_of_ble_eq_true rfl, Nat.le_of_ble_eq_true rfl⟩ hH ⟨0, 3, _, _, rfl, rfl, rfl⟩ rfl hl.1 (Nat.le_of_ble_eq_true rfl) dX3_notice_49 ⟨Nat.le_of_ble_eq_true rfl, Nat.le_of_ble_eq_true rfl⟩ rfl (fun u H locs hH => ?_)
    have hH : HH G A s (mW G q (va_up f 24 2) a) H locs := hH
    exact retI F hr rfl (fun _ => 0) hH rfl (Nat.le_of_ble_eq_true rfl) (Nat.le_of_ble_eq_true rfl) dX3_notice_52

set_option maxHeartbeats 4000000 in
set_option maxRecDepth 100000 in
theorem c_X3_notice_3 (l : Launch) (G : Gx) (q : Nat → Nat) (f : Nat → Int32) (a : Nat → Nat → Int32) (n : Nat) (e0 : f 0 = nI n) (hn : n ≤ 8) (i : Nat) (hi : i < n) (t : Nat) (e16 : f 16 = nI t) (ht : t ≤ 201) (cn : Nat) (e3 : a 3 i = nI cn) (hcn : cn ≤ 30) (x y : Nat) (hxy : x ≤ y) (hy : y ≤ 200) (h : Int32) (h1 : 0 ≤ h) (h2 : h ≤ 40) (hz : x < t + 2 ∨ cn = 30) : MI l yX3_notice wsX3_notice ({ frames := 1, cells := 0, slots := 0, locals := 22 } : Room) [.ref (q 0), .int (nI i), .int (nI x), .int (nI y), .int h] G (mW G q f a) (fun u => mW G q (va_up f 24 3) a) 0 := by
  refine ofMI (cc := cX3_notice) (maxL := 6) (ret := (some .int)) (by decide) rfl (Nat.le_of_ble_eq_true rfl) (fun p e s m below meth c A ls F hr hnm hH hl => ?_)
  have F : Fx G p s m _ meth c cX3_notice 6 wsX3_notice RX3 A := F
  have hx := F.1.1
  have hb := F.1.2.1
  have hl : lv_has ls 6 [(0, .ref (q 0)), (1, .int (nI i)), (2, .int (nI x)), (3, .int (nI y)), (4, .int h)] := hl
  refine lv_aload_n hx hb dX3_notice_0 rfl (lv_at hl 0 rfl) ?_
  refine lv_aload_n hx hb dX3_notice_1 rfl (lv_at hl 0 rfl) ?_
  refine lv_iload_n hx hb dX3_notice_2 rfl (lv_at hl 1 rfl) ?_
  refine callVI0 (rest := [.ref (q 0)]) F (c_X3_isWorker_1 l G q f a n e0 hn i hi) gX3_notice_X3_isWorker rfl hdX3_isWorker ⟨Nat.le_of_ble_eq_true rfl, Nat.le_of_ble_eq_true rfl⟩ hH ⟨0, 3, _, _, rfl, rfl, rfl⟩ rfl hl.1 (Nat.le_of_ble_eq_true rfl) dX3_notice_3 ⟨Nat.le_of_ble_eq_true rfl, Nat.le_of_ble_eq_true rfl⟩ rfl (fun u H locs hH => ?_)
  have hH : HH G A s (mW G q f a) H locs := hH
  refine callVI0 (rest := []) F (c_X3_asks_1 l G q f a) gX3_notice_X3_asks rfl hdX3_asks ⟨Nat.le_of_ble_eq_true rfl, Nat.le_of_ble_eq_true rfl⟩ hH ⟨0, 3, _, _, rfl, rfl, rfl⟩ rfl hl.1 (Nat.le_of_ble_eq_true rfl) dX3_notice_6 ⟨Nat.le_of_ble_eq_true rfl, Nat.le_of_ble_eq_true rfl⟩ rfl (fun u H locs hH => ?_)
  have hH : HH G A s (mW G q (va_up f 24 0) a) H locs := hH
  refine lv_if_ne (tgt := 14) hx hb dX3_notice_9 (by decide) (fun c_9 => ?_) (fun c_9 => absurd c_9 (by decide))
  refine lv_iload_n hx hb dX3_notice_14 rfl (lv_at hl 2 rfl) ?_
  refine lv_iconst (v := 0) hx hb dX3_notice_15 (by decide) ?_
  refine lv_sipush (v := 200) hx hb dX3_notice_16 (by decide) ?_
  refine callSI0 (rest := []) F (c_X3_in_1 l G _ (nI x) 0 200 (nI_pos' (by omega)) (nI_le (a := x) (b := 200) (by omega) (by decide))) gX3_notice_X3_in rfl hdX3_in ⟨Nat.le_of_ble_eq_true rfl, Nat.le_of_ble_eq_true rfl⟩ hH rfl hl.1 (Nat.le_of_ble_eq_true rfl) dX3_notice_19 ⟨Nat.le_of_ble_eq_true rfl, Nat.le_of_ble_eq_true rfl⟩ rfl (fun u H locs hH => ?_)
  have hH : HH G A s (mW G q (va_up f 24 0) a) H locs := hH
  refine lv_if_eq (tgt := 47) hx hb dX3_notice_22 (by decide) (fun c_22 => absurd c_22 (by decide)) (fun c_22 => ?_)
  refine lv_iload_n hx hb dX3_notice_25 rfl (lv_at hl 3 rfl) ?_
  refine lv_iload_n hx hb dX3_notice_26 rfl (lv_at hl 2 rfl) ?_
  refine lv_sipush (v := 200) hx hb dX3_notice_27 (by decide) ?_
  refine callSI0 (rest := []) F (c_X3_in_1 l G _ (nI y) (nI x) 200 (nI_le hxy (by omega)) (nI_le (a := y) (b := 200) hy (by decide))) gX3_notice_X3_in rfl hdX3_in ⟨Nat.le_of_ble_eq_true rfl, Nat.le_of_ble_eq_true rfl⟩ hH rfl hl.1 (Nat.le_of_ble_eq_true rfl) dX3_notice_30 ⟨Nat.le_of_ble_eq_true rfl, Nat.le_of_ble_eq_true rfl⟩ rfl (fun u H locs hH => ?_)
  have hH : HH G A s (mW G q (va_up f 24 0) a) H locs := hH
  refine lv_if_eq (tgt := 47) hx hb dX3_notice_33 (by decide) (fun c_33 => absurd c_33 (by decide)) (fun c_33 => ?_)
  refine lv_iload hx hb dX3_notice_36 (lv_at hl 4 rfl) ?_
  refine lv_iconst (v := 0) hx hb dX3_notice_38 (by decide) ?_
  refine lv_bipush (v := 40) hx hb dX3_notice_39 (by decide) ?_
  refine callSI0 (rest := []) F (c_X3_in_1 l G _ h 0 40 h1 h2) gX3_notice_X3_in rfl hdX3_in ⟨Nat.le_of_ble_eq_true rfl, Nat.le_of_ble_eq_true rfl⟩ hH rfl hl.1 (Nat.le_of_ble_eq_true rfl) dX3_notice_41 ⟨Nat.le_of_ble_eq_true rfl, Nat.le_of_ble_eq_true rfl⟩ rfl (fun u H locs hH => ?_)
  have hH : HH G A s (mW G q (va_up f 24 0) a) H locs := hH
  refine lv_if_ne (tgt := 53) hx hb dX3_notice_44 (by decide) (fun c_44 => ?_) (fun c_44 => absurd c_44 (by decide))
  rcases hz with hz | hz
  · refine lv_iload_n hx hb dX3_notice_53 rfl (lv_at hl 2 rfl) ?_
    refine lv_aload_n hx hb dX3_notice_54 rfl (lv_at hl 0 rfl) ?_
    refine rget (C := RX3) (T := TX3) (N := 25) (ref := RX3) F in_X3_notice_X3 hH 0 rfl rfl 16 (by decide) (by decide +kernel) (fun _ h9 => h9) (v := .int (f 16)) rfl dX3_notice_55 ?_
    refine lv_iconst (v := 2) hx hb dX3_notice_58 (by decide) ?_
    refine lv_iadd hx hb dX3_notice_59 ?_
    refine lv_icmp_lt (tgt := 74) hx hb dX3_notice_60 (by decide) (fun c_60 => ?_) (fun c_60 => absurd (by rw [e16, nI_2]; exact nI_lt hz (by omega)) c_60)
    refine lv_aload_n hx hb dX3_notice_74 rfl (lv_at hl 0 rfl) ?_
    refine lv_iconst (v := 3) hx hb dX3_notice_75 (by decide) ?_
    refine callVI0 (rest := []) F (c_X3_fails l G q (va_up f 24 0) a 3) gX3_notice_X3_fails rfl hdX3_fails ⟨Nat.le_of_ble_eq_true rfl, Nat.le_of_ble_eq_true rfl⟩ hH ⟨0, 3, _, _, rfl, rfl, rfl⟩ rfl hl.1 (Nat.le_of_ble_eq_true rfl) dX3_notice_76 ⟨Nat.le_of_ble_eq_true rfl, Nat.le_of_ble_eq_true rfl⟩ rfl (fun u H locs hH => ?_)
    have hH : HH G A s (mW G q (va_up f 24 3) a) H locs := hH
    exact retI F hr rfl (fun _ => 0) hH rfl (Nat.le_of_ble_eq_true rfl) (Nat.le_of_ble_eq_true rfl) dX3_notice_79
  · refine lv_iload_n hx hb dX3_notice_53 rfl (lv_at hl 2 rfl) ?_
    refine lv_aload_n hx hb dX3_notice_54 rfl (lv_at hl 0 rfl) ?_
    refine rget (C := RX3) (T := TX3) (N := 25) (ref := RX3) F in_X3_notice_X3 hH 0 rfl rfl 16 (by decide) (by decide +kernel) (fun _ h9 => h9) (v := .int (f 16)) rfl dX3_notice_55 ?_
    refine lv_iconst (v := 2) hx hb dX3_notice_58 (by decide) ?_
    refine lv_iadd hx hb dX3_notice_59 ?_
    refine lv_icmp_lt (tgt := 74) hx hb dX3_notice_60 (by decide) (fun c_60 => ?_) (fun c_60 => ?_)
    · refine lv_aload_n hx hb dX3_notice_74 rfl (lv_at hl 0 rfl) ?_
      refine lv_iconst (v := 3) hx hb dX3_notice_75 (by decide) ?_
      refine callVI0 (rest := []) F (c_X3_fails l G q (va_up f 24 0) a 3) gX3_notice_X3_fails rfl hdX3_fails ⟨Nat.le_of_ble_eq_true rfl, Nat.le_of_ble_eq_true rfl⟩ hH ⟨0, 3, _, _, rfl, rfl, rfl⟩ rfl hl.1 (Nat.le_of_ble_eq_true rfl) dX3_notice_76 ⟨Nat.le_of_ble_eq_true rfl, Nat.le_of_ble_eq_true rfl⟩ rfl (fun u H locs hH => ?_)
      have hH : HH G A s (mW G q (va_up f 24 3) a) H locs := hH
      exact retI F hr rfl (fun _ => 0) hH rfl (Nat.le_of_ble_eq_true rfl) (Nat.le_of_ble_eq_true rfl) dX3_notice_79
    · refine lv_aload_n hx hb dX3_notice_63 rfl (lv_at hl 0 rfl) ?_
      refine rget (C := RX3) (T := TX3) (N := 25) (ref := RX3) F in_X3_notice_X3 hH 0 rfl rfl 3 (by decide) (by decide +kernel) (fun _ h9 => h9) (v := .ref (q 3)) rfl dX3_notice_64 ?_
      refine lv_iload_n hx hb dX3_notice_67 rfl (lv_at hl 1 rfl) ?_
      refine riald F hH 3 (n := 8) (f := a 3) rfl i rfl (by omega) (by decide) dX3_notice_68 ?_
      refine lv_bipush (v := 30) hx hb dX3_notice_69 (by decide) ?_
      refine lv_icmp_ne (tgt := 80) hx hb dX3_notice_71 (by decide) (fun c_71 => absurd (by rw [e3, hz]; rfl) c_71) (fun c_71 => ?_)
      refine lv_aload_n hx hb dX3_notice_74 rfl (lv_at hl 0 rfl) ?_
      refine lv_iconst (v := 3) hx hb dX3_notice_75 (by decide) ?_
      refine callVI0 (rest := []) F (c_X3_fails l G q (va_up f 24 0) a 3) gX3_notice_X3_fails rfl hdX3_fails ⟨Nat.le_of_ble_eq_true rfl, Nat.le_of_ble_eq_true rfl⟩ hH ⟨0, 3, _, _, rfl, rfl, rfl⟩ rfl hl.1 (Nat.le_of_ble_eq_true rfl) dX3_notice_76 ⟨Nat.le_of_ble_eq_true rfl, Nat.le_of_ble_eq_true rfl⟩ rfl (fun u H locs hH => ?_)
      have hH : HH G A s (mW G q (va_up f 24 3) a) H locs := hH
      exact retI F hr rfl (fun _ => 0) hH rfl (Nat.le_of_ble_eq_true rfl) (Nat.le_of_ble_eq_true rfl) dX3_notice_79

set_option maxHeartbeats 4000000 in
set_option maxRecDepth 100000 in
theorem c_X3_notice_0 (l : Launch) (G : Gx) (q : Nat → Nat) (f : Nat → Int32) (a : Nat → Nat → Int32) (n : Nat) (e0 : f 0 = nI n) (hn : n ≤ 8) (v : Int32) (h : v < 0 ∨ nI n ≤ v) (x y z : Int32) : MI l yX3_notice wsX3_notice ({ frames := 1, cells := 0, slots := 0, locals := 21 } : Room) [.ref (q 0), .int v, .int x, .int y, .int z] G (mW G q f a) (fun u => mW G q (va_up f 24 1) a) 0 := by
  refine ofMI (cc := cX3_notice) (maxL := 6) (ret := (some .int)) (by decide) rfl (Nat.le_of_ble_eq_true rfl) (fun p e s m below meth c A ls F hr hnm hH hl => ?_)
  have F : Fx G p s m _ meth c cX3_notice 6 wsX3_notice RX3 A := F
  have hx := F.1.1
  have hb := F.1.2.1
  have hl : lv_has ls 6 [(0, .ref (q 0)), (1, .int v), (2, .int x), (3, .int y), (4, .int z)] := hl
  refine lv_aload_n hx hb dX3_notice_0 rfl (lv_at hl 0 rfl) ?_
  refine lv_aload_n hx hb dX3_notice_1 rfl (lv_at hl 0 rfl) ?_
  refine lv_iload_n hx hb dX3_notice_2 rfl (lv_at hl 1 rfl) ?_
  refine callVI0 (rest := [.ref (q 0)]) F (c_X3_isWorker_0 l G q f a n e0 hn v h) gX3_notice_X3_isWorker rfl hdX3_isWorker ⟨Nat.le_of_ble_eq_true rfl, Nat.le_of_ble_eq_true rfl⟩ hH ⟨0, 3, _, _, rfl, rfl, rfl⟩ rfl hl.1 (Nat.le_of_ble_eq_true rfl) dX3_notice_3 ⟨Nat.le_of_ble_eq_true rfl, Nat.le_of_ble_eq_true rfl⟩ rfl (fun u H locs hH => ?_)
  have hH : HH G A s (mW G q f a) H locs := hH
  refine callVI0 (rest := []) F (c_X3_asks_0 l G q f a) gX3_notice_X3_asks rfl hdX3_asks ⟨Nat.le_of_ble_eq_true rfl, Nat.le_of_ble_eq_true rfl⟩ hH ⟨0, 3, _, _, rfl, rfl, rfl⟩ rfl hl.1 (Nat.le_of_ble_eq_true rfl) dX3_notice_6 ⟨Nat.le_of_ble_eq_true rfl, Nat.le_of_ble_eq_true rfl⟩ rfl (fun u H locs hH => ?_)
  have hH : HH G A s (mW G q (va_up f 24 1) a) H locs := hH
  refine lv_if_ne (tgt := 14) hx hb dX3_notice_9 (by decide) (fun c_9 => absurd rfl c_9) (fun c_9 => ?_)
  refine lv_iconst (v := 0) hx hb dX3_notice_12 (by decide) ?_
  exact retI F hr rfl (fun _ => 0) hH rfl (Nat.le_of_ble_eq_true rfl) (Nat.le_of_ble_eq_true rfl) dX3_notice_13

set_option maxHeartbeats 4000000 in
set_option maxRecDepth 100000 in
theorem c_X3_addCourse_1 (l : Launch) (G : Gx) (q : Nat → Nat) (f : Nat → Int32) (a : Nat → Nat → Int32) (nc : Nat) (e10 : f 10 = nI nc) (hnc : nc < 10) (w : Int32) (w1 : 1 ≤ w) (w2 : w ≤ 8) (x y : Nat) (hxy : x ≤ y) (hy : y ≤ 200) (h : Int32) (h1 : 1 ≤ h) (h2 : h ≤ 40) : MI l yX3_addCourse wsX3_addCourse ({ frames := 1, cells := 0, slots := 0, locals := 22 } : Room) [.ref (q 0), .int w, .int (nI x), .int (nI y), .int h] G (mW G q f a) (fun u => mW G q (va_up (va_up f 24 0) 10 ((f 10) + 1)) (va_up (va_up (va_up (va_up a 11 (upd (a 11) nc w)) 12 (upd (a 12) nc (nI x))) 13 (upd (a 13) nc (nI y))) 14 (upd (a 14) nc h))) (nI nc) := by
  refine ofMI (cc := cX3_addCourse) (maxL := 5) (ret := (some .int)) (by decide) rfl (Nat.le_of_ble_eq_true rfl) (fun p e s m below meth c A ls F hr hnm hH hl => ?_)
  have F : Fx G p s m _ meth c cX3_addCourse 5 wsX3_addCourse RX3 A := F
  have hx := F.1.1
  have hb := F.1.2.1
  have hl : lv_has ls 5 [(0, .ref (q 0)), (1, .int w), (2, .int (nI x)), (3, .int (nI y)), (4, .int h)] := hl
  refine lv_aload_n hx hb dX3_addCourse_0 rfl (lv_at hl 0 rfl) ?_
  refine lv_iload_n hx hb dX3_addCourse_1 rfl (lv_at hl 1 rfl) ?_
  refine lv_iconst (v := 1) hx hb dX3_addCourse_2 (by decide) ?_
  refine lv_bipush (v := 8) hx hb dX3_addCourse_3 (by decide) ?_
  refine callSI0 (rest := [.ref (q 0)]) F (c_X3_in_1 l G _ w 1 8 w1 w2) gX3_addCourse_X3_in rfl hdX3_in ⟨Nat.le_of_ble_eq_true rfl, Nat.le_of_ble_eq_true rfl⟩ hH rfl hl.1 (Nat.le_of_ble_eq_true rfl) dX3_addCourse_5 ⟨Nat.le_of_ble_eq_true rfl, Nat.le_of_ble_eq_true rfl⟩ rfl (fun u H locs hH => ?_)
  have hH : HH G A s (mW G q f a) H locs := hH
  refine lv_if_eq (tgt := 48) hx hb dX3_addCourse_8 (by decide) (fun c_8 => absurd c_8 (by decide)) (fun c_8 => ?_)
  refine lv_iload_n hx hb dX3_addCourse_11 rfl (lv_at hl 2 rfl) ?_
  refine lv_iconst (v := 0) hx hb dX3_addCourse_12 (by decide) ?_
  refine lv_sipush (v := 200) hx hb dX3_addCourse_13 (by decide) ?_
  refine callSI0 (rest := [.ref (q 0)]) F (c_X3_in_1 l G _ (nI x) 0 200 (nI_pos' (by omega)) (nI_le (a := x) (b := 200) (by omega) (by decide))) gX3_addCourse_X3_in rfl hdX3_in ⟨Nat.le_of_ble_eq_true rfl, Nat.le_of_ble_eq_true rfl⟩ hH rfl hl.1 (Nat.le_of_ble_eq_true rfl) dX3_addCourse_16 ⟨Nat.le_of_ble_eq_true rfl, Nat.le_of_ble_eq_true rfl⟩ rfl (fun u H locs hH => ?_)
  have hH : HH G A s (mW G q f a) H locs := hH
  refine lv_if_eq (tgt := 48) hx hb dX3_addCourse_19 (by decide) (fun c_19 => absurd c_19 (by decide)) (fun c_19 => ?_)
  refine lv_iload_n hx hb dX3_addCourse_22 rfl (lv_at hl 3 rfl) ?_
  refine lv_iload_n hx hb dX3_addCourse_23 rfl (lv_at hl 2 rfl) ?_
  refine lv_sipush (v := 200) hx hb dX3_addCourse_24 (by decide) ?_
  refine callSI0 (rest := [.ref (q 0)]) F (c_X3_in_1 l G _ (nI y) (nI x) 200 (nI_le hxy (by omega)) (nI_le (a := y) (b := 200) hy (by decide))) gX3_addCourse_X3_in rfl hdX3_in ⟨Nat.le_of_ble_eq_true rfl, Nat.le_of_ble_eq_true rfl⟩ hH rfl hl.1 (Nat.le_of_ble_eq_true rfl) dX3_addCourse_27 ⟨Nat.le_of_ble_eq_true rfl, Nat.le_of_ble_eq_true rfl⟩ rfl (fun u H locs hH => ?_)
  have hH : HH G A s (mW G q f a) H locs := hH
  refine lv_if_eq (tgt := 48) hx hb dX3_addCourse_30 (by decide) (fun c_30 => absurd c_30 (by decide)) (fun c_30 => ?_)
  refine lv_iload hx hb dX3_addCourse_33 (lv_at hl 4 rfl) ?_
  refine lv_iconst (v := 1) hx hb dX3_addCourse_35 (by decide) ?_
  refine lv_bipush (v := 40) hx hb dX3_addCourse_36 (by decide) ?_
  refine callSI0 (rest := [.ref (q 0)]) F (c_X3_in_1 l G _ h 1 40 h1 h2) gX3_addCourse_X3_in rfl hdX3_in ⟨Nat.le_of_ble_eq_true rfl, Nat.le_of_ble_eq_true rfl⟩ hH rfl hl.1 (Nat.le_of_ble_eq_true rfl) dX3_addCourse_38 ⟨Nat.le_of_ble_eq_true rfl, Nat.le_of_ble_eq_true rfl⟩ rfl (fun u H locs hH => ?_)
  have hH : HH G A s (mW G q f a) H locs := hH
  refine lv_if_eq (tgt := 48) hx hb dX3_addCourse_41 (by decide) (fun c_41 => absurd c_41 (by decide)) (fun c_41 => ?_)
  refine lv_iconst (v := 1) hx hb dX3_addCourse_44 (by decide) ?_
  refine lv_goto (tgt := 49) hx hb dX3_addCourse_45 (by decide) ?_
  refine callVI0 (rest := []) F (c_X3_asks_1 l G q f a) gX3_addCourse_X3_asks rfl hdX3_asks ⟨Nat.le_of_ble_eq_true rfl, Nat.le_of_ble_eq_true rfl⟩ hH ⟨0, 3, _, _, rfl, rfl, rfl⟩ rfl hl.1 (Nat.le_of_ble_eq_true rfl) dX3_addCourse_49 ⟨Nat.le_of_ble_eq_true rfl, Nat.le_of_ble_eq_true rfl⟩ rfl (fun u H locs hH => ?_)
  have hH : HH G A s (mW G q (va_up f 24 0) a) H locs := hH
  refine lv_if_ne (tgt := 57) hx hb dX3_addCourse_52 (by decide) (fun c_52 => ?_) (fun c_52 => absurd c_52 (by decide))
  refine lv_aload_n hx hb dX3_addCourse_57 rfl (lv_at hl 0 rfl) ?_
  refine rget (C := RX3) (T := TX3) (N := 25) (ref := RX3) F in_X3_addCourse_X3 hH 0 rfl rfl 10 (by decide) (by decide +kernel) (fun _ h9 => h9) (v := .int (f 10)) rfl dX3_addCourse_58 ?_
  refine lv_bipush (v := 10) hx hb dX3_addCourse_61 (by decide) ?_
  refine lv_icmp_ne (tgt := 72) hx hb dX3_addCourse_63 (by decide) (fun c_63 => ?_) (fun c_63 => absurd c_63 (by rw [e10]; exact ne10 hnc))
  refine lv_aload_n hx hb dX3_addCourse_72 rfl (lv_at hl 0 rfl) ?_
  refine rget (C := RX3) (T := TX3) (N := 25) (ref := RX3) F in_X3_addCourse_X3 hH 0 rfl rfl 11 (by decide) (by decide +kernel) (fun _ h9 => h9) (v := .ref (q 11)) rfl dX3_addCourse_73 ?_
  refine lv_aload_n hx hb dX3_addCourse_76 rfl (lv_at hl 0 rfl) ?_
  refine rget (C := RX3) (T := TX3) (N := 25) (ref := RX3) F in_X3_addCourse_X3 hH 0 rfl rfl 10 (by decide) (by decide +kernel) (fun _ h9 => h9) (v := .int (f 10)) rfl dX3_addCourse_77 ?_
  refine lv_iload_n hx hb dX3_addCourse_80 rfl (lv_at hl 1 rfl) ?_
  refine riast F hH 9 (n := 10) (f := a 11) rfl nc e10 (by omega) (by decide) dX3_addCourse_81 (fun H locs hH => ?_)
  have hH : HH G A s (mW G q (va_up f 24 0) (va_up a 11 (upd (a 11) nc w))) H locs := hH
  refine lv_aload_n hx hb dX3_addCourse_82 rfl (lv_at hl 0 rfl) ?_
  refine rget (C := RX3) (T := TX3) (N := 25) (ref := RX3) F in_X3_addCourse_X3 hH 0 rfl rfl 12 (by decide) (by decide +kernel) (fun _ h9 => h9) (v := .ref (q 12)) rfl dX3_addCourse_83 ?_
  refine lv_aload_n hx hb dX3_addCourse_86 rfl (lv_at hl 0 rfl) ?_
  refine rget (C := RX3) (T := TX3) (N := 25) (ref := RX3) F in_X3_addCourse_X3 hH 0 rfl rfl 10 (by decide) (by decide +kernel) (fun _ h9 => h9) (v := .int (f 10)) rfl dX3_addCourse_87 ?_
  refine lv_iload_n hx hb dX3_addCourse_90 rfl (lv_at hl 2 rfl) ?_
  refine riast F hH 10 (n := 10) (f := a 12) rfl nc e10 (by omega) (by decide) dX3_addCourse_91 (fun H locs hH => ?_)
  have hH : HH G A s (mW G q (va_up f 24 0) (va_up (va_up a 11 (upd (a 11) nc w)) 12 (upd (a 12) nc (nI x)))) H locs := hH
  refine lv_aload_n hx hb dX3_addCourse_92 rfl (lv_at hl 0 rfl) ?_
  refine rget (C := RX3) (T := TX3) (N := 25) (ref := RX3) F in_X3_addCourse_X3 hH 0 rfl rfl 13 (by decide) (by decide +kernel) (fun _ h9 => h9) (v := .ref (q 13)) rfl dX3_addCourse_93 ?_
  refine lv_aload_n hx hb dX3_addCourse_96 rfl (lv_at hl 0 rfl) ?_
  refine rget (C := RX3) (T := TX3) (N := 25) (ref := RX3) F in_X3_addCourse_X3 hH 0 rfl rfl 10 (by decide) (by decide +kernel) (fun _ h9 => h9) (v := .int (f 10)) rfl dX3_addCourse_97 ?_
  refine lv_iload_n hx hb dX3_addCourse_100 rfl (lv_at hl 3 rfl) ?_
  refine riast F hH 11 (n := 10) (f := a 13) rfl nc e10 (by omega) (by decide) dX3_addCourse_101 (fun H locs hH => ?_)
  have hH : HH G A s (mW G q (va_up f 24 0) (va_up (va_up (va_up a 11 (upd (a 11) nc w)) 12 (upd (a 12) nc (nI x))) 13 (upd (a 13) nc (nI y)))) H locs := hH
  refine lv_aload_n hx hb dX3_addCourse_102 rfl (lv_at hl 0 rfl) ?_
  refine rget (C := RX3) (T := TX3) (N := 25) (ref := RX3) F in_X3_addCourse_X3 hH 0 rfl rfl 14 (by decide) (by decide +kernel) (fun _ h9 => h9) (v := .ref (q 14)) rfl dX3_addCourse_103 ?_
  refine lv_aload_n hx hb dX3_addCourse_106 rfl (lv_at hl 0 rfl) ?_
  refine rget (C := RX3) (T := TX3) (N := 25) (ref := RX3) F in_X3_addCourse_X3 hH 0 rfl rfl 10 (by decide) (by decide +kernel) (fun _ h9 => h9) (v := .int (f 10)) rfl dX3_addCourse_107 ?_
  refine lv_iload hx hb dX3_addCourse_110 (lv_at hl 4 rfl) ?_
  refine riast F hH 12 (n := 10) (f := a 14) rfl nc e10 (by omega) (by decide) dX3_addCourse_112 (fun H locs hH => ?_)
  have hH : HH G A s (mW G q (va_up f 24 0) (va_up (va_up (va_up (va_up a 11 (upd (a 11) nc w)) 12 (upd (a 12) nc (nI x))) 13 (upd (a 13) nc (nI y))) 14 (upd (a 14) nc h))) H locs := hH
  refine lv_aload_n hx hb dX3_addCourse_113 rfl (lv_at hl 0 rfl) ?_
  refine lv_dup hx hb dX3_addCourse_114 rfl ?_
  refine rget (C := RX3) (T := TX3) (N := 25) (ref := RX3) F in_X3_addCourse_X3 hH 0 rfl rfl 10 (by decide) (by decide +kernel) (fun _ h9 => h9) (v := .int (f 10)) rfl dX3_addCourse_115 ?_
  refine lv_iconst (v := 1) hx hb dX3_addCourse_118 (by decide) ?_
  refine lv_iadd hx hb dX3_addCourse_119 ?_
  refine rput (C := RX3) (T := TX3) (N := 25) (ref := RX3) F in_X3_addCourse_X3 tyX3 tyX3_ok nmX3 hH 0 rfl rfl 10 (by decide) (by decide +kernel) (fun _ h9 => h9) rfl (v := .int ((f 10) + 1)) rfl rfl (Nat.le_of_ble_eq_true rfl) dX3_addCourse_120 (fun H locs hH => ?_)
  have hH : HH G A s (mW G q (va_up (va_up f 24 0) 10 ((f 10) + 1)) (va_up (va_up (va_up (va_up a 11 (upd (a 11) nc w)) 12 (upd (a 12) nc (nI x))) 13 (upd (a 13) nc (nI y))) 14 (upd (a 14) nc h))) H locs := hH
  refine lv_aload_n hx hb dX3_addCourse_123 rfl (lv_at hl 0 rfl) ?_
  refine rget (C := RX3) (T := TX3) (N := 25) (ref := RX3) F in_X3_addCourse_X3 hH 0 rfl rfl 10 (by decide) (by decide +kernel) (fun _ h9 => h9) (v := .int (((f 10) + 1))) rfl dX3_addCourse_124 ?_
  refine lv_iconst (v := 1) hx hb dX3_addCourse_127 (by decide) ?_
  refine lv_isub hx hb dX3_addCourse_128 ?_
  exact retI F hr rfl (fun _ => 0) hH (by rw [e10, nI_1]; exact nI_pred nc) (Nat.le_of_ble_eq_true rfl) (Nat.le_of_ble_eq_true rfl) dX3_addCourse_129

set_option maxHeartbeats 4000000 in
set_option maxRecDepth 100000 in
theorem c_X3_addCourse_2 (l : Launch) (G : Gx) (q : Nat → Nat) (f : Nat → Int32) (a : Nat → Nat → Int32) (w x y z : Int32) (h : (w < 1 ∨ 8 < w) ∨ ((1 ≤ w ∧ w ≤ 8) ∧ (x < 0 ∨ 200 < x)) ∨ ((1 ≤ w ∧ w ≤ 8 ∧ 0 ≤ x ∧ x ≤ 200) ∧ (y < x ∨ 200 < y)) ∨ ((1 ≤ w ∧ w ≤ 8 ∧ 0 ≤ x ∧ x ≤ 200 ∧ x ≤ y ∧ y ≤ 200) ∧ (z < 1 ∨ 40 < z))) : MI l yX3_addCourse wsX3_addCourse ({ frames := 1, cells := 0, slots := 0, locals := 22 } : Room) [.ref (q 0), .int w, .int x, .int y, .int z] G (mW G q f a) (fun u => mW G q (va_up f 24 1) a) 0 := by
  refine ofMI (cc := cX3_addCourse) (maxL := 5) (ret := (some .int)) (by decide) rfl (Nat.le_of_ble_eq_true rfl) (fun p e s m below meth c A ls F hr hnm hH hl => ?_)
  have F : Fx G p s m _ meth c cX3_addCourse 5 wsX3_addCourse RX3 A := F
  have hx := F.1.1
  have hb := F.1.2.1
  have hl : lv_has ls 5 [(0, .ref (q 0)), (1, .int w), (2, .int x), (3, .int y), (4, .int z)] := hl
  rcases h with h | ⟨⟨g1, g2⟩, h⟩ | ⟨⟨g1, g2, g3, g4⟩, h⟩ | ⟨⟨g1, g2, g3, g4, g5, g6⟩, h⟩
  · refine lv_aload_n hx hb dX3_addCourse_0 rfl (lv_at hl 0 rfl) ?_
    refine lv_iload_n hx hb dX3_addCourse_1 rfl (lv_at hl 1 rfl) ?_
    refine lv_iconst (v := 1) hx hb dX3_addCourse_2 (by decide) ?_
    refine lv_bipush (v := 8) hx hb dX3_addCourse_3 (by decide) ?_
    refine callSI0 (rest := [.ref (q 0)]) F (c_X3_in_0 l G _ w 1 8 h) gX3_addCourse_X3_in rfl hdX3_in ⟨Nat.le_of_ble_eq_true rfl, Nat.le_of_ble_eq_true rfl⟩ hH rfl hl.1 (Nat.le_of_ble_eq_true rfl) dX3_addCourse_5 ⟨Nat.le_of_ble_eq_true rfl, Nat.le_of_ble_eq_true rfl⟩ rfl (fun u H locs hH => ?_)
    have hH : HH G A s (mW G q f a) H locs := hH
    refine lv_if_eq (tgt := 48) hx hb dX3_addCourse_8 (by decide) (fun c_8 => ?_) (fun c_8 => absurd rfl c_8)
    refine lv_iconst (v := 0) hx hb dX3_addCourse_48 (by decide) ?_
    refine callVI0 (rest := []) F (c_X3_asks_0 l G q f a) gX3_addCourse_X3_asks rfl hdX3_asks ⟨Nat.le_of_ble_eq_true rfl, Nat.le_of_ble_eq_true rfl⟩ hH ⟨0, 3, _, _, rfl, rfl, rfl⟩ rfl hl.1 (Nat.le_of_ble_eq_true rfl) dX3_addCourse_49 ⟨Nat.le_of_ble_eq_true rfl, Nat.le_of_ble_eq_true rfl⟩ rfl (fun u H locs hH => ?_)
    have hH : HH G A s (mW G q (va_up f 24 1) a) H locs := hH
    refine lv_if_ne (tgt := 57) hx hb dX3_addCourse_52 (by decide) (fun c_52 => absurd rfl c_52) (fun c_52 => ?_)
    refine lv_iconst (v := 0) hx hb dX3_addCourse_55 (by decide) ?_
    exact retI F hr rfl (fun _ => 0) hH rfl (Nat.le_of_ble_eq_true rfl) (Nat.le_of_ble_eq_true rfl) dX3_addCourse_56
  · refine lv_aload_n hx hb dX3_addCourse_0 rfl (lv_at hl 0 rfl) ?_
    refine lv_iload_n hx hb dX3_addCourse_1 rfl (lv_at hl 1 rfl) ?_
    refine lv_iconst (v := 1) hx hb dX3_addCourse_2 (by decide) ?_
    refine lv_bipush (v := 8) hx hb dX3_addCourse_3 (by decide) ?_
    refine callSI0 (rest := [.ref (q 0)]) F (c_X3_in_1 l G _ w 1 8 g1 g2) gX3_addCourse_X3_in rfl hdX3_in ⟨Nat.le_of_ble_eq_true rfl, Nat.le_of_ble_eq_true rfl⟩ hH rfl hl.1 (Nat.le_of_ble_eq_true rfl) dX3_addCourse_5 ⟨Nat.le_of_ble_eq_true rfl, Nat.le_of_ble_eq_true rfl⟩ rfl (fun u H locs hH => ?_)
    have hH : HH G A s (mW G q f a) H locs := hH
    refine lv_if_eq (tgt := 48) hx hb dX3_addCourse_8 (by decide) (fun c_8 => absurd c_8 (by decide)) (fun c_8 => ?_)
    refine lv_iload_n hx hb dX3_addCourse_11 rfl (lv_at hl 2 rfl) ?_
    refine lv_iconst (v := 0) hx hb dX3_addCourse_12 (by decide) ?_
    refine lv_sipush (v := 200) hx hb dX3_addCourse_13 (by decide) ?_
    refine callSI0 (rest := [.ref (q 0)]) F (c_X3_in_0 l G _ x 0 200 h) gX3_addCourse_X3_in rfl hdX3_in ⟨Nat.le_of_ble_eq_true rfl, Nat.le_of_ble_eq_true rfl⟩ hH rfl hl.1 (Nat.le_of_ble_eq_true rfl) dX3_addCourse_16 ⟨Nat.le_of_ble_eq_true rfl, Nat.le_of_ble_eq_true rfl⟩ rfl (fun u H locs hH => ?_)
    have hH : HH G A s (mW G q f a) H locs := hH
    refine lv_if_eq (tgt := 48) hx hb dX3_addCourse_19 (by decide) (fun c_19 => ?_) (fun c_19 => absurd rfl c_19)
    refine lv_iconst (v := 0) hx hb dX3_addCourse_48 (by decide) ?_
    refine callVI0 (rest := []) F (c_X3_asks_0 l G q f a) gX3_addCourse_X3_asks rfl hdX3_asks ⟨Nat.le_of_ble_eq_true rfl, Nat.le_of_ble_eq_true rfl⟩ hH ⟨0, 3, _, _, rfl, rfl, rfl⟩ rfl hl.1 (Nat.le_of_ble_eq_true rfl) dX3_addCourse_49 ⟨Nat.le_of_ble_eq_true rfl, Nat.le_of_ble_eq_true rfl⟩ rfl (fun u H locs hH => ?_)
    have hH : HH G A s (mW G q (va_up f 24 1) a) H locs := hH
    refine lv_if_ne (tgt := 57) hx hb dX3_addCourse_52 (by decide) (fun c_52 => absurd rfl c_52) (fun c_52 => ?_)
    refine lv_iconst (v := 0) hx hb dX3_addCourse_55 (by decide) ?_
    exact retI F hr rfl (fun _ => 0) hH rfl (Nat.le_of_ble_eq_true rfl) (Nat.le_of_ble_eq_true rfl) dX3_addCourse_56
  · refine lv_aload_n hx hb dX3_addCourse_0 rfl (lv_at hl 0 rfl) ?_
    refine lv_iload_n hx hb dX3_addCourse_1 rfl (lv_at hl 1 rfl) ?_
    refine lv_iconst (v := 1) hx hb dX3_addCourse_2 (by decide) ?_
    refine lv_bipush (v := 8) hx hb dX3_addCourse_3 (by decide) ?_
    refine callSI0 (rest := [.ref (q 0)]) F (c_X3_in_1 l G _ w 1 8 g1 g2) gX3_addCourse_X3_in rfl hdX3_in ⟨Nat.le_of_ble_eq_true rfl, Nat.le_of_ble_eq_true rfl⟩ hH rfl hl.1 (Nat.le_of_ble_eq_true rfl) dX3_addCourse_5 ⟨Nat.le_of_ble_eq_true rfl, Nat.le_of_ble_eq_true rfl⟩ rfl (fun u H locs hH => ?_)
    have hH : HH G A s (mW G q f a) H locs := hH
    refine lv_if_eq (tgt := 48) hx hb dX3_addCourse_8 (by decide) (fun c_8 => absurd c_8 (by decide)) (fun c_8 => ?_)
    refine lv_iload_n hx hb dX3_addCourse_11 rfl (lv_at hl 2 rfl) ?_
    refine lv_iconst (v := 0) hx hb dX3_addCourse_12 (by decide) ?_
    refine lv_sipush (v := 200) hx hb dX3_addCourse_13 (by decide) ?_
    refine callSI0 (rest := [.ref (q 0)]) F (c_X3_in_1 l G _ x 0 200 g3 g4) gX3_addCourse_X3_in rfl hdX3_in ⟨Nat.le_of_ble_eq_true rfl, Nat.le_of_ble_eq_true rfl⟩ hH rfl hl.1 (Nat.le_of_ble_eq_true rfl) dX3_addCourse_16 ⟨Nat.le_of_ble_eq_true rfl, Nat.le_of_ble_eq_true rfl⟩ rfl (fun u H locs hH => ?_)
    have hH : HH G A s (mW G q f a) H locs := hH
    refine lv_if_eq (tgt := 48) hx hb dX3_addCourse_19 (by decide) (fun c_19 => absurd c_19 (by decide)) (fun c_19 => ?_)
    refine lv_iload_n hx hb dX3_addCourse_22 rfl (lv_at hl 3 rfl) ?_
    refine lv_iload_n hx hb dX3_addCourse_23 rfl (lv_at hl 2 rfl) ?_
    refine lv_sipush (v := 200) hx hb dX3_addCourse_24 (by decide) ?_
    refine callSI0 (rest := [.ref (q 0)]) F (c_X3_in_0 l G _ y x 200 h) gX3_addCourse_X3_in rfl hdX3_in ⟨Nat.le_of_ble_eq_true rfl, Nat.le_of_ble_eq_true rfl⟩ hH rfl hl.1 (Nat.le_of_ble_eq_true rfl) dX3_addCourse_27 ⟨Nat.le_of_ble_eq_true rfl, Nat.le_of_ble_eq_true rfl⟩ rfl (fun u H locs hH => ?_)
    have hH : HH G A s (mW G q f a) H locs := hH
    refine lv_if_eq (tgt := 48) hx hb dX3_addCourse_30 (by decide) (fun c_30 => ?_) (fun c_30 => absurd rfl c_30)
    refine lv_iconst (v := 0) hx hb dX3_addCourse_48 (by decide) ?_
    refine callVI0 (rest := []) F (c_X3_asks_0 l G q f a) gX3_addCourse_X3_asks rfl hdX3_asks ⟨Nat.le_of_ble_eq_true rfl, Nat.le_of_ble_eq_true rfl⟩ hH ⟨0, 3, _, _, rfl, rfl, rfl⟩ rfl hl.1 (Nat.le_of_ble_eq_true rfl) dX3_addCourse_49 ⟨Nat.le_of_ble_eq_true rfl, Nat.le_of_ble_eq_true rfl⟩ rfl (fun u H locs hH => ?_)
    have hH : HH G A s (mW G q (va_up f 24 1) a) H locs := hH
    refine lv_if_ne (tgt := 57) hx hb dX3_addCourse_52 (by decide) (fun c_52 => absurd rfl c_52) (fun c_52 => ?_)
    refine lv_iconst (v := 0) hx hb dX3_addCourse_55 (by decide) ?_
    exact retI F hr rfl (fun _ => 0) hH rfl (Nat.le_of_ble_eq_true rfl) (Nat.le_of_ble_eq_true rfl) dX3_addCourse_56
  · refine lv_aload_n hx hb dX3_addCourse_0 rfl (lv_at hl 0 rfl) ?_
    refine lv_iload_n hx hb dX3_addCourse_1 rfl (lv_at hl 1 rfl) ?_
    refine lv_iconst (v := 1) hx hb dX3_addCourse_2 (by decide) ?_
    refine lv_bipush (v := 8) hx hb dX3_addCourse_3 (by decide) ?_
    refine callSI0 (rest := [.ref (q 0)]) F (c_X3_in_1 l G _ w 1 8 g1 g2) gX3_addCourse_X3_in rfl hdX3_in ⟨Nat.le_of_ble_eq_true rfl, Nat.le_of_ble_eq_true rfl⟩ hH rfl hl.1 (Nat.le_of_ble_eq_true rfl) dX3_addCourse_5 ⟨Nat.le_of_ble_eq_true rfl, Nat.le_of_ble_eq_true rfl⟩ rfl (fun u H locs hH => ?_)
    have hH : HH G A s (mW G q f a) H locs := hH
    refine lv_if_eq (tgt := 48) hx hb dX3_addCourse_8 (by decide) (fun c_8 => absurd c_8 (by decide)) (fun c_8 => ?_)
    refine lv_iload_n hx hb dX3_addCourse_11 rfl (lv_at hl 2 rfl) ?_
    refine lv_iconst (v := 0) hx hb dX3_addCourse_12 (by decide) ?_
    refine lv_sipush (v := 200) hx hb dX3_addCourse_13 (by decide) ?_
    refine callSI0 (rest := [.ref (q 0)]) F (c_X3_in_1 l G _ x 0 200 g3 g4) gX3_addCourse_X3_in rfl hdX3_in ⟨Nat.le_of_ble_eq_true rfl, Nat.le_of_ble_eq_true rfl⟩ hH rfl hl.1 (Nat.le_of_ble_eq_true rfl) dX3_addCourse_16 ⟨Nat.le_of_ble_eq_true rfl, Nat.le_of_ble_eq_true rfl⟩ rfl (fun u H locs hH => ?_)
    have hH : HH G A s (mW G q f a) H locs := hH
    refine lv_if_eq (tgt := 48) hx hb dX3_addCourse_19 (by decide) (fun c_19 => absurd c_19 (by decide)) (fun c_19 => ?_)
    refine lv_iload_n hx hb dX3_addCourse_22 rfl (lv_at hl 3 rfl) ?_
    refine lv_iload_n hx hb dX3_addCourse_23 rfl (lv_at hl 2 rfl) ?_
    refine lv_sipush (v := 200) hx hb dX3_addCourse_24 (by decide) ?_
    refine callSI0 (rest := [.ref (q 0)]) F (c_X3_in_1 l G _ y x 200 g5 g6) gX3_addCourse_X3_in rfl hdX3_in ⟨Nat.le_of_ble_eq_true rfl, Nat.le_of_ble_eq_true rfl⟩ hH rfl hl.1 (Nat.le_of_ble_eq_true rfl) dX3_addCourse_27 ⟨Nat.le_of_ble_eq_true rfl, Nat.le_of_ble_eq_true rfl⟩ rfl (fun u H locs hH => ?_)
    have hH : HH G A s (mW G q f a) H locs := hH
    refine lv_if_eq (tgt := 48) hx hb dX3_addCourse_30 (by decide) (fun c_30 => absurd c_30 (by decide)) (fun c_30 => ?_)
    refine lv_iload hx hb dX3_addCourse_33 (lv_at hl 4 rfl) ?_
    refine lv_iconst (v := 1) hx hb dX3_addCourse_35 (by decide) ?_
    refine lv_bipush (v := 40) hx hb dX3_addCourse_36 (by decide) ?_
    refine callSI0 (rest := [.ref (q 0)]) F (c_X3_in_0 l G _ z 1 40 h) gX3_addCourse_X3_in rfl hdX3_in ⟨Nat.le_of_ble_eq_true rfl, Nat.le_of_ble_eq_true rfl⟩ hH rfl hl.1 (Nat.le_of_ble_eq_true rfl) dX3_addCourse_38 ⟨Nat.le_of_ble_eq_true rfl, Nat.le_of_ble_eq_true rfl⟩ rfl (fun u H locs hH => ?_)
    have hH : HH G A s (mW G q f a) H locs := hH
    refine lv_if_eq (tgt := 48) hx hb dX3_addCourse_41 (by decide) (fun c_41 => ?_) (fun c_41 => absurd rfl c_41)
    refine lv_iconst (v := 0) hx hb dX3_addCourse_48 (by decide) ?_
    refine callVI0 (rest := []) F (c_X3_asks_0 l G q f a) gX3_addCourse_X3_asks rfl hdX3_asks ⟨Nat.le_of_ble_eq_true rfl, Nat.le_of_ble_eq_true rfl⟩ hH ⟨0, 3, _, _, rfl, rfl, rfl⟩ rfl hl.1 (Nat.le_of_ble_eq_true rfl) dX3_addCourse_49 ⟨Nat.le_of_ble_eq_true rfl, Nat.le_of_ble_eq_true rfl⟩ rfl (fun u H locs hH => ?_)
    have hH : HH G A s (mW G q (va_up f 24 1) a) H locs := hH
    refine lv_if_ne (tgt := 57) hx hb dX3_addCourse_52 (by decide) (fun c_52 => absurd rfl c_52) (fun c_52 => ?_)
    refine lv_iconst (v := 0) hx hb dX3_addCourse_55 (by decide) ?_
    exact retI F hr rfl (fun _ => 0) hH rfl (Nat.le_of_ble_eq_true rfl) (Nat.le_of_ble_eq_true rfl) dX3_addCourse_56

set_option maxHeartbeats 4000000 in
set_option maxRecDepth 100000 in
theorem c_X3_addCourse_3 (l : Launch) (G : Gx) (q : Nat → Nat) (f : Nat → Int32) (a : Nat → Nat → Int32) (e10 : f 10 = 10) (w x y z : Int32) (h : 1 ≤ w ∧ w ≤ 8 ∧ 0 ≤ x ∧ x ≤ 200 ∧ x ≤ y ∧ y ≤ 200 ∧ 1 ≤ z ∧ z ≤ 40) : MI l yX3_addCourse wsX3_addCourse ({ frames := 1, cells := 0, slots := 0, locals := 22 } : Room) [.ref (q 0), .int w, .int x, .int y, .int z] G (mW G q f a) (fun u => mW G q (va_up f 24 2) a) 0 := by
  refine ofMI (cc := cX3_addCourse) (maxL := 5) (ret := (some .int)) (by decide) rfl (Nat.le_of_ble_eq_true rfl) (fun p e s m below meth c A ls F hr hnm hH hl => ?_)
  have F : Fx G p s m _ meth c cX3_addCourse 5 wsX3_addCourse RX3 A := F
  have hx := F.1.1
  have hb := F.1.2.1
  have hl : lv_has ls 5 [(0, .ref (q 0)), (1, .int w), (2, .int x), (3, .int y), (4, .int z)] := hl
  obtain ⟨g1, g2, g3, g4, g5, g6, g7, g8⟩ := h
  · refine lv_aload_n hx hb dX3_addCourse_0 rfl (lv_at hl 0 rfl) ?_
    refine lv_iload_n hx hb dX3_addCourse_1 rfl (lv_at hl 1 rfl) ?_
    refine lv_iconst (v := 1) hx hb dX3_addCourse_2 (by decide) ?_
    refine lv_bipush (v := 8) hx hb dX3_addCourse_3 (by decide) ?_
    refine callSI0 (rest := [.ref (q 0)]) F (c_X3_in_1 l G _ w 1 8 g1 g2) gX3_addCourse_X3_in rfl hdX3_in ⟨Nat.le_of_ble_eq_true rfl, Nat.le_of_ble_eq_true rfl⟩ hH rfl hl.1 (Nat.le_of_ble_eq_true rfl) dX3_addCourse_5 ⟨Nat.le_of_ble_eq_true rfl, Nat.le_of_ble_eq_true rfl⟩ rfl (fun u H locs hH => ?_)
    have hH : HH G A s (mW G q f a) H locs := hH
    refine lv_if_eq (tgt := 48) hx hb dX3_addCourse_8 (by decide) (fun c_8 => absurd c_8 (by decide)) (fun c_8 => ?_)
    refine lv_iload_n hx hb dX3_addCourse_11 rfl (lv_at hl 2 rfl) ?_
    refine lv_iconst (v := 0) hx hb dX3_addCourse_12 (by decide) ?_
    refine lv_sipush (v := 200) hx hb dX3_addCourse_13 (by decide) ?_
    refine callSI0 (rest := [.ref (q 0)]) F (c_X3_in_1 l G _ x 0 200 g3 g4) gX3_addCourse_X3_in rfl hdX3_in ⟨Nat.le_of_ble_eq_true rfl, Nat.le_of_ble_eq_true rfl⟩ hH rfl hl.1 (Nat.le_of_ble_eq_true rfl) dX3_addCourse_16 ⟨Nat.le_of_ble_eq_true rfl, Nat.le_of_ble_eq_true rfl⟩ rfl (fun u H locs hH => ?_)
    have hH : HH G A s (mW G q f a) H locs := hH
    refine lv_if_eq (tgt := 48) hx hb dX3_addCourse_19 (by decide) (fun c_19 => absurd c_19 (by decide)) (fun c_19 => ?_)
    refine lv_iload_n hx hb dX3_addCourse_22 rfl (lv_at hl 3 rfl) ?_
    refine lv_iload_n hx hb dX3_addCourse_23 rfl (lv_at hl 2 rfl) ?_
    refine lv_sipush (v := 200) hx hb dX3_addCourse_24 (by decide) ?_
    refine callSI0 (rest := [.ref (q 0)]) F (c_X3_in_1 l G _ y x 200 g5 g6) gX3_addCourse_X3_in rfl hdX3_in ⟨Nat.le_of_ble_eq_true rfl, Nat.le_of_ble_eq_true rfl⟩ hH rfl hl.1 (Nat.le_of_ble_eq_true rfl) dX3_addCourse_27 ⟨Nat.le_of_ble_eq_true rfl, Nat.le_of_ble_eq_true rfl⟩ rfl (fun u H locs hH => ?_)
    have hH : HH G A s (mW G q f a) H locs := hH
    refine lv_if_eq (tgt := 48) hx hb dX3_addCourse_30 (by decide) (fun c_30 => absurd c_30 (by decide)) (fun c_30 => ?_)
    refine lv_iload hx hb dX3_addCourse_33 (lv_at hl 4 rfl) ?_
    refine lv_iconst (v := 1) hx hb dX3_addCourse_35 (by decide) ?_
    refine lv_bipush (v := 40) hx hb dX3_addCourse_36 (by decide) ?_
    refine callSI0 (rest := [.ref (q 0)]) F (c_X3_in_1 l G _ z 1 40 g7 g8) gX3_addCourse_X3_in rfl hdX3_in ⟨Nat.le_of_ble_eq_true rfl, Nat.le_of_ble_eq_true rfl⟩ hH rfl hl.1 (Nat.le_of_ble_eq_true rfl) dX3_addCourse_38 ⟨Nat.le_of_ble_eq_true rfl, Nat.le_of_ble_eq_true rfl⟩ rfl (fun u H locs hH => ?_)
    have hH : HH G A s (mW G q f a) H locs := hH
    refine lv_if_eq (tgt := 48) hx hb dX3_addCourse_41 (by decide) (fun c_41 => absurd c_41 (by decide)) (fun c_41 => ?_)
    refine lv_iconst (v := 1) hx hb dX3_addCourse_44 (by decide) ?_
    refine lv_goto (tgt := 49) hx hb dX3_addCourse_45 (by decide) ?_
    refine callVI0 (rest := []) F (c_X3_asks_1 l G q f a) gX3_addCourse_X3_asks rfl hdX3_asks ⟨Nat.le_of_ble_eq_true rfl, Nat.le_of_ble_eq_true rfl⟩ hH ⟨0, 3, _, _, rfl, rfl, rfl⟩ rfl hl.1 (Nat.le_of_ble_eq_true rfl) dX3_addCourse_49 ⟨Nat.le_of_ble_eq_true rfl, Nat.le_of_ble_eq_true rfl⟩ rfl (fun u H locs hH => ?_)
    have hH : HH G A s (mW G q (va_up f 24 0) a) H locs := hH
    refine lv_if_ne (tgt := 57) hx hb dX3_addCourse_52 (by decide) (fun c_52 => ?_) (fun c_52 => absurd c_52 (by decide))
    refine lv_aload_n hx hb dX3_addCourse_57 rfl (lv_at hl 0 rfl) ?_
    refine rget (C := RX3) (T := TX3) (N := 25) (ref := RX3) F in_X3_addCourse_X3 hH 0 rfl rfl 10 (by decide) (by decide +kernel) (fun _ h9 => h9) (v := .int (f 10)) rfl dX3_addCourse_58 ?_
    refine lv_bipush (v := 10) hx hb dX3_addCourse_61 (by decide) ?_
    refine lv_icmp_ne (tgt := 72) hx hb dX3_addCourse_63 (by decide) (fun c_63 => absurd e10 c_63) (fun c_63 => ?_)
    refine lv_aload_n hx hb dX3_addCourse_66 rfl (lv_at hl 0 rfl) ?_
    refine lv_iconst (v := 2) hx hb dX3_addCourse_67 (by decide) ?_
    refine callVI0 (rest := []) F (c_X3_fails l G q (va_up f 24 0) a 2) gX3_addCourse_X3_fails rfl hdX3_fails ⟨Nat.le_of_ble_eq_true rfl, Nat.le_of_ble_eq_true rfl⟩ hH ⟨0, 3, _, _, rfl, rfl, rfl⟩ rfl hl.1 (Nat.le_of_ble_eq_true rfl) dX3_addCourse_68 ⟨Nat.le_of_ble_eq_true rfl, Nat.le_of_ble_eq_true rfl⟩ rfl (fun u H locs hH => ?_)
    have hH : HH G A s (mW G q (va_up f 24 2) a) H locs := hH
    exact retI F hr rfl (fun _ => 0) hH rfl (Nat.le_of_ble_eq_true rfl) (Nat.le_of_ble_eq_true rfl) dX3_addCourse_71

set_option maxHeartbeats 4000000 in
set_option maxRecDepth 100000 in
theorem c_X3_enrol_1 (l : Launch) (G : Gx) (q : Nat → Nat) (f : Nat → Int32) (a : Nat → Nat → Int32) (n : Nat) (e0 : f 0 = nI n) (hn : n ≤ 8) (i : Nat) (hi : i < n) (nc : Nat) (e10 : f 10 = nI nc) (hnc : nc ≤ 10) (t : Nat) (e16 : f 16 = nI t) (ht : t ≤ 201) (j : Nat) (hj : j < nc) (hs : ¬ a 11 j = 0) (hm : meetsN a i j nc = 0) (hw : ¬ a 13 j < nI t) : MI l yX3_enrol wsX3_enrol ({ frames := 1, cells := 0, slots := 0, locals := 24 } : Room) [.ref (q 0), .int (nI i), .int (nI j)] G (mW G q f a) (fun u => mW G q (va_up f 24 0) (va_up (va_up a 15 (upd (a 15) (8 * j + i) 1)) 11 (upd (a 11) j ((a 11 j) - 1)))) (a 11 j - 1) := by
  refine ofMI (cc := cX3_enrol) (maxL := 3) (ret := (some .int)) (by decide) rfl (Nat.le_of_ble_eq_true rfl) (fun p e s m below meth c A ls F hr hnm hH hl => ?_)
  have F : Fx G p s m _ meth c cX3_enrol 3 wsX3_enrol RX3 A := F
  have hx := F.1.1
  have hb := F.1.2.1
  have hl : lv_has ls 3 [(0, .ref (q 0)), (1, .int (nI i)), (2, .int (nI j))] := hl
  refine lv_aload_n hx hb dX3_enrol_0 rfl (lv_at hl 0 rfl) ?_
  refine lv_aload_n hx hb dX3_enrol_1 rfl (lv_at hl 0 rfl) ?_
  refine lv_iload_n hx hb dX3_enrol_2 rfl (lv_at hl 1 rfl) ?_
  refine callVI0 (rest := [.ref (q 0)]) F (c_X3_isWorker_1 l G q f a n e0 hn i hi) gX3_enrol_X3_isWorker rfl hdX3_isWorker ⟨Nat.le_of_ble_eq_true rfl, Nat.le_of_ble_eq_true rfl⟩ hH ⟨0, 3, _, _, rfl, rfl, rfl⟩ rfl hl.1 (Nat.le_of_ble_eq_true rfl) dX3_enrol_3 ⟨Nat.le_of_ble_eq_true rfl, Nat.le_of_ble_eq_true rfl⟩ rfl (fun u H locs hH => ?_)
  have hH : HH G A s (mW G q f a) H locs := hH
  refine lv_if_eq (tgt := 21) hx hb dX3_enrol_6 (by decide) (fun c_6 => absurd c_6 (by decide)) (fun c_6 => ?_)
  refine lv_aload_n hx hb dX3_enrol_9 rfl (lv_at hl 0 rfl) ?_
  refine lv_iload_n hx hb dX3_enrol_10 rfl (lv_at hl 2 rfl) ?_
  refine callVI0 (rest := [.ref (q 0)]) F (c_X3_isCourse_1 l G q f a nc e10 hnc j hj) gX3_enrol_X3_isCourse rfl hdX3_isCourse ⟨Nat.le_of_ble_eq_true rfl, Nat.le_of_ble_eq_true rfl⟩ hH ⟨0, 3, _, _, rfl, rfl, rfl⟩ rfl hl.1 (Nat.le_of_ble_eq_true rfl) dX3_enrol_11 ⟨Nat.le_of_ble_eq_true rfl, Nat.le_of_ble_eq_true rfl⟩ rfl (fun u H locs hH => ?_)
  have hH : HH G A s (mW G q f a) H locs := hH
  refine lv_if_eq (tgt := 21) hx hb dX3_enrol_14 (by decide) (fun c_14 => absurd c_14 (by decide)) (fun c_14 => ?_)
  refine lv_iconst (v := 1) hx hb dX3_enrol_17 (by decide) ?_
  refine lv_goto (tgt := 22) hx hb dX3_enrol_18 (by decide) ?_
  refine callVI0 (rest := []) F (c_X3_asks_1 l G q f a) gX3_enrol_X3_asks rfl hdX3_asks ⟨Nat.le_of_ble_eq_true rfl, Nat.le_of_ble_eq_true rfl⟩ hH ⟨0, 3, _, _, rfl, rfl, rfl⟩ rfl hl.1 (Nat.le_of_ble_eq_true rfl) dX3_enrol_22 ⟨Nat.le_of_ble_eq_true rfl, Nat.le_of_ble_eq_true rfl⟩ rfl (fun u H locs hH => ?_)
  have hH : HH G A s (mW G q (va_up f 24 0) a) H locs := hH
  refine lv_if_ne (tgt := 30) hx hb dX3_enrol_25 (by decide) (fun c_25 => ?_) (fun c_25 => absurd c_25 (by decide))
  refine lv_aload_n hx hb dX3_enrol_30 rfl (lv_at hl 0 rfl) ?_
  refine rget (C := RX3) (T := TX3) (N := 25) (ref := RX3) F in_X3_enrol_X3 hH 0 rfl rfl 11 (by decide) (by decide +kernel) (fun _ h9 => h9) (v := .ref (q 11)) rfl dX3_enrol_31 ?_
  refine lv_iload_n hx hb dX3_enrol_34 rfl (lv_at hl 2 rfl) ?_
  refine riald F hH 9 (n := 10) (f := a 11) rfl j rfl (by omega) (by decide) dX3_enrol_35 ?_
  refine lv_if_eq (tgt := 61) hx hb dX3_enrol_36 (by decide) (fun c_36 => absurd c_36 hs) (fun c_36 => ?_)
  refine lv_aload_n hx hb dX3_enrol_39 rfl (lv_at hl 0 rfl) ?_
  refine lv_iload_n hx hb dX3_enrol_40 rfl (lv_at hl 1 rfl) ?_
  refine lv_iload_n hx hb dX3_enrol_41 rfl (lv_at hl 2 rfl) ?_
  refine callVI0 (rest := []) F (c_X3_meets l G q (va_up f 24 0) a i (by omega) nc e10 hnc j hj) gX3_enrol_X3_meets rfl hdX3_meets ⟨Nat.le_of_ble_eq_true rfl, Nat.le_of_ble_eq_true rfl⟩ hH ⟨0, 3, _, _, rfl, rfl, rfl⟩ rfl hl.1 (Nat.le_of_ble_eq_true rfl) dX3_enrol_42 ⟨Nat.le_of_ble_eq_true rfl, Nat.le_of_ble_eq_true rfl⟩ rfl (fun u H locs hH => ?_)
  have hH : HH G A s (mW G q (va_up f 24 0) a) H locs := hH
  refine lv_if_ne (tgt := 61) hx hb dX3_enrol_45 (by decide) (fun c_45 => absurd hm c_45) (fun c_45 => ?_)
  refine lv_aload_n hx hb dX3_enrol_48 rfl (lv_at hl 0 rfl) ?_
  refine rget (C := RX3) (T := TX3) (N := 25) (ref := RX3) F in_X3_enrol_X3 hH 0 rfl rfl 13 (by decide) (by decide +kernel) (fun _ h9 => h9) (v := .ref (q 13)) rfl dX3_enrol_49 ?_
  refine lv_iload_n hx hb dX3_enrol_52 rfl (lv_at hl 2 rfl) ?_
  refine riald F hH 11 (n := 10) (f := a 13) rfl j rfl (by omega) (by decide) dX3_enrol_53 ?_
  refine lv_aload_n hx hb dX3_enrol_54 rfl (lv_at hl 0 rfl) ?_
  refine rget (C := RX3) (T := TX3) (N := 25) (ref := RX3) F in_X3_enrol_X3 hH 0 rfl rfl 16 (by decide) (by decide +kernel) (fun _ h9 => h9) (v := .int (f 16)) rfl dX3_enrol_55 ?_
  refine lv_icmp_ge (tgt := 67) hx hb dX3_enrol_58 (by decide) (fun c_58 => ?_) (fun c_58 => absurd (by rw [e16]; exact i_le hw) c_58)
  refine lv_aload_n hx hb dX3_enrol_67 rfl (lv_at hl 0 rfl) ?_
  refine rget (C := RX3) (T := TX3) (N := 25) (ref := RX3) F in_X3_enrol_X3 hH 0 rfl rfl 15 (by decide) (by decide +kernel) (fun _ h9 => h9) (v := .ref (q 15)) rfl dX3_enrol_68 ?_
  refine lv_bipush (v := 8) hx hb dX3_enrol_71 (by decide) ?_
  refine lv_iload_n hx hb dX3_enrol_73 rfl (lv_at hl 2 rfl) ?_
  refine lv_imul hx hb dX3_enrol_74 ?_
  refine lv_iload_n hx hb dX3_enrol_75 rfl (lv_at hl 1 rfl) ?_
  refine lv_iadd hx hb dX3_enrol_76 ?_
  refine lv_iconst (v := 1) hx hb dX3_enrol_77 (by decide) ?_
  refine rzast F hH 13 (n := 80) (f := a 15) rfl (8 * j + i) (ix8 j i) (by omega) (by decide) rfl dX3_enrol_78 (fun H locs hH => ?_)
  have hH : HH G A s (mW G q (va_up f 24 0) (va_up a 15 (upd (a 15) (8 * j + i) 1))) H locs := hH
  refine lv_aload_n hx hb dX3_enrol_79 rfl (lv_at hl 0 rfl) ?_
  refine rget (C := RX3) (T := TX3) (N := 25) (ref := RX3) F in_X3_enrol_X3 hH 0 rfl rfl 11 (by decide) (by decide +kernel) (fun _ h9 => h9) (v := .ref (q 11)) rfl dX3_enrol_80 ?_
  refine lv_iload_n hx hb dX3_enrol_83 rfl (lv_at hl 2 rfl) ?_
  refine lv_dup2_11 hx hb dX3_enrol_84 rfl rfl ?_
  refine riald F hH 9 (n := 10) (f := a 11) rfl j rfl (by omega) (by decide) dX3_enrol_85 ?_
  refine lv_iconst (v := 1) hx hb dX3_enrol_86 (by decide) ?_
  refine lv_isub hx hb dX3_enrol_87 ?_
  refine riast F hH 9 (n := 10) (f := a 11) rfl j rfl (by omega) (by decide) dX3_enrol_88 (fun H locs hH => ?_)
  have hH : HH G A s (mW G q (va_up f 24 0) (va_up (va_up a 15 (upd (a 15) (8 * j + i) 1)) 11 (upd (a 11) j ((a 11 j) - 1)))) H locs := hH
  refine lv_aload_n hx hb dX3_enrol_89 rfl (lv_at hl 0 rfl) ?_
  refine rget (C := RX3) (T := TX3) (N := 25) (ref := RX3) F in_X3_enrol_X3 hH 0 rfl rfl 11 (by decide) (by decide +kernel) (fun _ h9 => h9) (v := .ref (q 11)) rfl dX3_enrol_90 ?_
  refine lv_iload_n hx hb dX3_enrol_93 rfl (lv_at hl 2 rfl) ?_
  refine riald F hH 9 (n := 10) (f := upd (a 11) j ((a 11 j) - 1)) rfl j rfl (by omega) (by decide) dX3_enrol_94 ?_
  exact retI F hr rfl (fun _ => 0) hH pk_us (Nat.le_of_ble_eq_true rfl) (Nat.le_of_ble_eq_true rfl) dX3_enrol_95

set_option maxHeartbeats 4000000 in
set_option maxRecDepth 100000 in
theorem c_X3_enrol_2 (l : Launch) (G : Gx) (q : Nat → Nat) (f : Nat → Int32) (a : Nat → Nat → Int32) (n : Nat) (e0 : f 0 = nI n) (hn : n ≤ 8) (i : Nat) (hi : i < n) (nc : Nat) (e10 : f 10 = nI nc) (hnc : nc ≤ 10) (t : Nat) (e16 : f 16 = nI t) (ht : t ≤ 201) (j : Nat) (hj : j < nc) (hz : a 11 j = 0 ∨ (¬ a 11 j = 0 ∧ meetsN a i j nc = 1) ∨ (¬ a 11 j = 0 ∧ meetsN a i j nc = 0 ∧ a 13 j < nI t)) : MI l yX3_enrol wsX3_enrol ({ frames := 1, cells := 0, slots := 0, locals := 24 } : Room) [.ref (q 0), .int (nI i), .int (nI j)] G (mW G q f a) (fun u => mW G q (va_up f 24 2) a) 0 := by
  refine ofMI (cc := cX3_enrol) (maxL := 3) (ret := (some .int)) (by decide) rfl (Nat.le_of_ble_eq_true rfl) (fun p e s m below meth c A ls F hr hnm hH hl => ?_)
  have F : Fx G p s m _ meth c cX3_enrol 3 wsX3_enrol RX3 A := F
  have hx := F.1.1
  have hb := F.1.2.1
  have hl : lv_has ls 3 [(0, .ref (q 0)), (1, .int (nI i)), (2, .int (nI j))] := hl
  refine lv_aload_n hx hb dX3_enrol_0 rfl (lv_at hl 0 rfl) ?_
  refine lv_aload_n hx hb dX3_enrol_1 rfl (lv_at hl 0 rfl) ?_
  refine lv_iload_n hx hb dX3_enrol_2 rfl (lv_at hl 1 rfl) ?_
  refine callVI0 (rest := [.ref (q 0)]) F (c_X3_isWorker_1 l G q f a n e0 hn i hi) gX3_enrol_X3_isWorker rfl hdX3_isWorker ⟨Nat.le_of_ble_eq_true rfl, Nat.le_of_ble_eq_true rfl⟩ hH ⟨0, 3, _, _, rfl, rfl, rfl⟩ rfl hl.1 (Nat.le_of_ble_eq_true rfl) dX3_enrol_3 ⟨Nat.le_of_ble_eq_true rfl, Nat.le_of_ble_eq_true rfl⟩ rfl (fun u H locs hH => ?_)
  have hH : HH G A s (mW G q f a) H locs := hH
  refine lv_if_eq (tgt := 21) hx hb dX3_enrol_6 (by decide) (fun c_6 => absurd c_6 (by decide)) (fun c_6 => ?_)
  refine lv_aload_n hx hb dX3_enrol_9 rfl (lv_at hl 0 rfl) ?_
  refine lv_iload_n hx hb dX3_enrol_10 rfl (lv_at hl 2 rfl) ?_
  refine callVI0 (rest := [.ref (q 0)]) F (c_X3_isCourse_1 l G q f a nc e10 hnc j hj) gX3_enrol_X3_isCourse rfl hdX3_isCourse ⟨Nat.le_of_ble_eq_true rfl, Nat.le_of_ble_eq_true rfl⟩ hH ⟨0, 3, _, _, rfl, rfl, rfl⟩ rfl hl.1 (Nat.le_of_ble_eq_true rfl) dX3_enrol_11 ⟨Nat.le_of_ble_eq_true rfl, Nat.le_of_ble_eq_true rfl⟩ rfl (fun u H locs hH => ?_)
  have hH : HH G A s (mW G q f a) H locs := hH
  refine lv_if_eq (tgt := 21) hx hb dX3_enrol_14 (by decide) (fun c_14 => absurd c_14 (by decide)) (fun c_14 => ?_)
  refine lv_iconst (v := 1) hx hb dX3_enrol_17 (by decide) ?_
  refine lv_goto (tgt := 22) hx hb dX3_enrol_18 (by decide) ?_
  refine callVI0 (rest := []) F (c_X3_asks_1 l G q f a) gX3_enrol_X3_asks rfl hdX3_asks ⟨Nat.le_of_ble_eq_true rfl, Nat.le_of_ble_eq_true rfl⟩ hH ⟨0, 3, _, _, rfl, rfl, rfl⟩ rfl hl.1 (Nat.le_of_ble_eq_true rfl) dX3_enrol_22 ⟨Nat.le_of_ble_eq_true rfl, Nat.le_of_ble_eq_true rfl⟩ rfl (fun u H locs hH => ?_)
  have hH : HH G A s (mW G q (va_up f 24 0) a) H locs := hH
  refine lv_if_ne (tgt := 30) hx hb dX3_enrol_25 (by decide) (fun c_25 => ?_) (fun c_25 => absurd c_25 (by decide))
  rcases hz with hz | ⟨hs, hm⟩ | ⟨hs, hm, hw⟩
  · refine lv_aload_n hx hb dX3_enrol_30 rfl (lv_at hl 0 rfl) ?_
    refine rget (C := RX3) (T := TX3) (N := 25) (ref := RX3) F in_X3_enrol_X3 hH 0 rfl rfl 11 (by decide) (by decide +kernel) (fun _ h9 => h9) (v := .ref (q 11)) rfl dX3_enrol_31 ?_
    refine lv_iload_n hx hb dX3_enrol_34 rfl (lv_at hl 2 rfl) ?_
    refine riald F hH 9 (n := 10) (f := a 11) rfl j rfl (by omega) (by decide) dX3_enrol_35 ?_
    refine lv_if_eq (tgt := 61) hx hb dX3_enrol_36 (by decide) (fun c_36 => ?_) (fun c_36 => absurd hz c_36)
    refine lv_aload_n hx hb dX3_enrol_61 rfl (lv_at hl 0 rfl) ?_
    refine lv_iconst (v := 2) hx hb dX3_enrol_62 (by decide) ?_
    refine callVI0 (rest := []) F (c_X3_fails l G q (va_up f 24 0) a 2) gX3_enrol_X3_fails rfl hdX3_fails ⟨Nat.le_of_ble_eq_true rfl, Nat.le_of_ble_eq_true rfl⟩ hH ⟨0, 3, _, _, rfl, rfl, rfl⟩ rfl hl.1 (Nat.le_of_ble_eq_true rfl) dX3_enrol_63 ⟨Nat.le_of_ble_eq_true rfl, Nat.le_of_ble_eq_true rfl⟩ rfl (fun u H locs hH => ?_)
    have hH : HH G A s (mW G q (va_up f 24 2) a) H locs := hH
    exact retI F hr rfl (fun _ => 0) hH rfl (Nat.le_of_ble_eq_true rfl) (Nat.le_of_ble_eq_true rfl) dX3_enrol_66
  · refine lv_aload_n hx hb dX3_enrol_30 rfl (lv_at hl 0 rfl) ?_
    refine rget (C := RX3) (T := TX3) (N := 25) (ref := RX3) F in_X3_enrol_X3 hH 0 rfl rfl 11 (by decide) (by decide +kernel) (fun _ h9 => h9) (v := .ref (q 11)) rfl dX3_enrol_31 ?_
    refine lv_iload_n hx hb dX3_enrol_34 rfl (lv_at hl 2 rfl) ?_
    refine riald F hH 9 (n := 10) (f := a 11) rfl j rfl (by omega) (by decide) dX3_enrol_35 ?_
    refine lv_if_eq (tgt := 61) hx hb dX3_enrol_36 (by decide) (fun c_36 => absurd c_36 hs) (fun c_36 => ?_)
    refine lv_aload_n hx hb dX3_enrol_39 rfl (lv_at hl 0 rfl) ?_
    refine lv_iload_n hx hb dX3_enrol_40 rfl (lv_at hl 1 rfl) ?_
    refine lv_iload_n hx hb dX3_enrol_41 rfl (lv_at hl 2 rfl) ?_
    refine callVI0 (rest := []) F (c_X3_meets l G q (va_up f 24 0) a i (by omega) nc e10 hnc j hj) gX3_enrol_X3_meets rfl hdX3_meets ⟨Nat.le_of_ble_eq_true rfl, Nat.le_of_ble_eq_true rfl⟩ hH ⟨0, 3, _, _, rfl, rfl, rfl⟩ rfl hl.1 (Nat.le_of_ble_eq_true rfl) dX3_enrol_42 ⟨Nat.le_of_ble_eq_true rfl, Nat.le_of_ble_eq_true rfl⟩ rfl (fun u H locs hH => ?_)
    have hH : HH G A s (mW G q (va_up f 24 0) a) H locs := hH
    refine lv_if_ne (tgt := 61) hx hb dX3_enrol_45 (by decide) (fun c_45 => ?_) (fun c_45 => absurd c_45 (by rw [hm]; decide))
    refine lv_aload_n hx hb dX3_enrol_61 rfl (lv_at hl 0 rfl) ?_
    refine lv_iconst (v := 2) hx hb dX3_enrol_62 (by decide) ?_
    refine callVI0 (rest := []) F (c_X3_fails l G q (va_up f 24 0) a 2) gX3_enrol_X3_fails rfl hdX3_fails ⟨Nat.le_of_ble_eq_true rfl, Nat.le_of_ble_eq_true rfl⟩ hH ⟨0, 3, _, _, rfl, rfl, rfl⟩ rfl hl.1 (Nat.le_of_ble_eq_true rfl) dX3_enrol_63 ⟨Nat.le_of_ble_eq_true rfl, Nat.le_of_ble_eq_true rfl⟩ rfl (fun u H locs hH => ?_)
    have hH : HH G A s (mW G q (va_up f 24 2) a) H locs := hH
    exact retI F hr rfl (fun _ => 0) hH rfl (Nat.le_of_ble_eq_true rfl) (Nat.le_of_ble_eq_true rfl) dX3_enrol_66
  · refine lv_aload_n hx hb dX3_enrol_30 rfl (lv_at hl 0 rfl) ?_
    refine rget (C := RX3) (T := TX3) (N := 25) (ref := RX3) F in_X3_enrol_X3 hH 0 rfl rfl 11 (by decide) (by decide +kernel) (fun _ h9 => h9) (v := .ref (q 11)) rfl dX3_enrol_31 ?_
    refine lv_iload_n hx hb dX3_enrol_34 rfl (lv_at hl 2 rfl) ?_
    refine riald F hH 9 (n := 10) (f := a 11) rfl j rfl (by omega) (by decide) dX3_enrol_35 ?_
    refine lv_if_eq (tgt := 61) hx hb dX3_enrol_36 (by decide) (fun c_36 => absurd c_36 hs) (fun c_36 => ?_)
    refine lv_aload_n hx hb dX3_enrol_39 rfl (lv_at hl 0 rfl) ?_
    refine lv_iload_n hx hb dX3_enrol_40 rfl (lv_at hl 1 rfl) ?_
    refine lv_iload_n hx hb dX3_enrol_41 rfl (lv_at hl 2 rfl) ?_
    refine callVI0 (rest := []) F (c_X3_meets l G q (va_up f 24 0) a i (by omega) nc e10 hnc j hj) gX3_enrol_X3_meets rfl hdX3_meets ⟨Nat.le_of_ble_eq_true rfl, Nat.le_of_ble_eq_true rfl⟩ hH ⟨0, 3, _, _, rfl, rfl, rfl⟩ rfl hl.1 (Nat.le_of_ble_eq_true rfl) dX3_enrol_42 ⟨Nat.le_of_ble_eq_true rfl, Nat.le_of_ble_eq_true rfl⟩ rfl (fun u H locs hH => ?_)
    have hH : HH G A s (mW G q (va_up f 24 0) a) H locs := hH
    refine lv_if_ne (tgt := 61) hx hb dX3_enrol_45 (by decide) (fun c_45 => absurd hm c_45) (fun c_45 => ?_)
    refine lv_aload_n hx hb dX3_enrol_48 rfl (lv_at hl 0 rfl) ?_
    refine rget (C := RX3) (T := TX3) (N := 25) (ref := RX3) F in_X3_enrol_X3 hH 0 rfl rfl 13 (by decide) (by decide +kernel) (fun _ h9 => h9) (v := .ref (q 13)) rfl dX3_enrol_49 ?_
    refine lv_iload_n hx hb dX3_enrol_52 rfl (lv_at hl 2 rfl) ?_
    refine riald F hH 11 (n := 10) (f := a 13) rfl j rfl (by omega) (by decide) dX3_enrol_53 ?_
    refine lv_aload_n hx hb dX3_enrol_54 rfl (lv_at hl 0 rfl) ?_
    refine rget (C := RX3) (T := TX3) (N := 25) (ref := RX3) F in_X3_enrol_X3 hH 0 rfl rfl 16 (by decide) (by decide +kernel) (fun _ h9 => h9) (v := .int (f 16)) rfl dX3_enrol_55 ?_
    refine lv_icmp_ge (tgt := 67) hx hb dX3_enrol_58 (by decide) (fun c_58 => absurd c_58 (by rw [e16]; exact i_nle hw)) (fun c_58 => ?_)
    refine lv_aload_n hx hb dX3_enrol_61 rfl (lv_at hl 0 rfl) ?_
    refine lv_iconst (v := 2) hx hb dX3_enrol_62 (by decide) ?_
    refine callVI0 (rest := []) F (c_X3_fails l G q (va_up f 24 0) a 2) gX3_enrol_X3_fails rfl hdX3_fails ⟨Nat.le_of_ble_eq_true rfl, Nat.le_of_ble_eq_true rfl⟩ hH ⟨0, 3, _, _, rfl, rfl, rfl⟩ rfl hl.1 (Nat.le_of_ble_eq_true rfl) dX3_enrol_63 ⟨Nat.le_of_ble_eq_true rfl, Nat.le_of_ble_eq_true rfl⟩ rfl (fun u H locs hH => ?_)
    have hH : HH G A s (mW G q (va_up f 24 2) a) H locs := hH
    exact retI F hr rfl (fun _ => 0) hH rfl (Nat.le_of_ble_eq_true rfl) (Nat.le_of_ble_eq_true rfl) dX3_enrol_66

set_option maxHeartbeats 4000000 in
set_option maxRecDepth 100000 in
theorem c_X3_enrol_0 (l : Launch) (G : Gx) (q : Nat → Nat) (f : Nat → Int32) (a : Nat → Nat → Int32) (n : Nat) (e0 : f 0 = nI n) (hn : n ≤ 8) (v : Int32) (h : v < 0 ∨ nI n ≤ v) (w : Int32) : MI l yX3_enrol wsX3_enrol ({ frames := 1, cells := 0, slots := 0, locals := 21 } : Room) [.ref (q 0), .int v, .int w] G (mW G q f a) (fun u => mW G q (va_up f 24 1) a) 0 := by
  refine ofMI (cc := cX3_enrol) (maxL := 3) (ret := (some .int)) (by decide) rfl (Nat.le_of_ble_eq_true rfl) (fun p e s m below meth c A ls F hr hnm hH hl => ?_)
  have F : Fx G p s m _ meth c cX3_enrol 3 wsX3_enrol RX3 A := F
  have hx := F.1.1
  have hb := F.1.2.1
  have hl : lv_has ls 3 [(0, .ref (q 0)), (1, .int v), (2, .int w)] := hl
  refine lv_aload_n hx hb dX3_enrol_0 rfl (lv_at hl 0 rfl) ?_
  refine lv_aload_n hx hb dX3_enrol_1 rfl (lv_at hl 0 rfl) ?_
  refine lv_iload_n hx hb dX3_enrol_2 rfl (lv_at hl 1 rfl) ?_
  refine callVI0 (rest := [.ref (q 0)]) F (c_X3_isWorker_0 l G q f a n e0 hn v h) gX3_enrol_X3_isWorker rfl hdX3_isWorker ⟨Nat.le_of_ble_eq_true rfl, Nat.le_of_ble_eq_true rfl⟩ hH ⟨0, 3, _, _, rfl, rfl, rfl⟩ rfl hl.1 (Nat.le_of_ble_eq_true rfl) dX3_enrol_3 ⟨Nat.le_of_ble_eq_true rfl, Nat.le_of_ble_eq_true rfl⟩ rfl (fun u H locs hH => ?_)
  have hH : HH G A s (mW G q f a) H locs := hH
  refine lv_if_eq (tgt := 21) hx hb dX3_enrol_6 (by decide) (fun c_6 => ?_) (fun c_6 => absurd rfl c_6)
  refine lv_iconst (v := 0) hx hb dX3_enrol_21 (by decide) ?_
  refine callVI0 (rest := []) F (c_X3_asks_0 l G q f a) gX3_enrol_X3_asks rfl hdX3_asks ⟨Nat.le_of_ble_eq_true rfl, Nat.le_of_ble_eq_true rfl⟩ hH ⟨0, 3, _, _, rfl, rfl, rfl⟩ rfl hl.1 (Nat.le_of_ble_eq_true rfl) dX3_enrol_22 ⟨Nat.le_of_ble_eq_true rfl, Nat.le_of_ble_eq_true rfl⟩ rfl (fun u H locs hH => ?_)
  have hH : HH G A s (mW G q (va_up f 24 1) a) H locs := hH
  refine lv_if_ne (tgt := 30) hx hb dX3_enrol_25 (by decide) (fun c_25 => absurd rfl c_25) (fun c_25 => ?_)
  refine lv_iconst (v := 0) hx hb dX3_enrol_28 (by decide) ?_
  exact retI F hr rfl (fun _ => 0) hH rfl (Nat.le_of_ble_eq_true rfl) (Nat.le_of_ble_eq_true rfl) dX3_enrol_29

set_option maxHeartbeats 4000000 in
set_option maxRecDepth 100000 in
theorem c_X3_enrol_00 (l : Launch) (G : Gx) (q : Nat → Nat) (f : Nat → Int32) (a : Nat → Nat → Int32) (n : Nat) (e0 : f 0 = nI n) (hn : n ≤ 8) (i : Nat) (hi : i < n) (nc : Nat) (e10 : f 10 = nI nc) (hnc : nc ≤ 10) (w : Int32) (h : w < 0 ∨ nI nc ≤ w) : MI l yX3_enrol wsX3_enrol ({ frames := 1, cells := 0, slots := 0, locals := 21 } : Room) [.ref (q 0), .int (nI i), .int w] G (mW G q f a) (fun u => mW G q (va_up f 24 1) a) 0 := by
  refine ofMI (cc := cX3_enrol) (maxL := 3) (ret := (some .int)) (by decide) rfl (Nat.le_of_ble_eq_true rfl) (fun p e s m below meth c A ls F hr hnm hH hl => ?_)
  have F : Fx G p s m _ meth c cX3_enrol 3 wsX3_enrol RX3 A := F
  have hx := F.1.1
  have hb := F.1.2.1
  have hl : lv_has ls 3 [(0, .ref (q 0)), (1, .int (nI i)), (2, .int w)] := hl
  refine lv_aload_n hx hb dX3_enrol_0 rfl (lv_at hl 0 rfl) ?_
  refine lv_aload_n hx hb dX3_enrol_1 rfl (lv_at hl 0 rfl) ?_
  refine lv_iload_n hx hb dX3_enrol_2 rfl (lv_at hl 1 rfl) ?_
  refine callVI0 (rest := [.ref (q 0)]) F (c_X3_isWorker_1 l G q f a n e0 hn i hi) gX3_enrol_X3_isWorker rfl hdX3_isWorker ⟨Nat.le_of_ble_eq_true rfl, Nat.le_of_ble_eq_true rfl⟩ hH ⟨0, 3, _, _, rfl, rfl, rfl⟩ rfl hl.1 (Nat.le_of_ble_eq_true rfl) dX3_enrol_3 ⟨Nat.le_of_ble_eq_true rfl, Nat.le_of_ble_eq_true rfl⟩ rfl (fun u H locs hH => ?_)
  have hH : HH G A s (mW G q f a) H locs := hH
  refine lv_if_eq (tgt := 21) hx hb dX3_enrol_6 (by decide) (fun c_6 => absurd c_6 (by decide)) (fun c_6 => ?_)
  refine lv_aload_n hx hb dX3_enrol_9 rfl (lv_at hl 0 rfl) ?_
  refine lv_iload_n hx hb dX3_enrol_10 rfl (lv_at hl 2 rfl) ?_
  refine callVI0 (rest := [.ref (q 0)]) F (c_X3_isCourse_0 l G q f a nc e10 hnc w h) gX3_enrol_X3_isCourse rfl hdX3_isCourse ⟨Nat.le_of_ble_eq_true rfl, Nat.le_of_ble_eq_true rfl⟩ hH ⟨0, 3, _, _, rfl, rfl, rfl⟩ rfl hl.1 (Nat.le_of_ble_eq_true rfl) dX3_enrol_11 ⟨Nat.le_of_ble_eq_true rfl, Nat.le_of_ble_eq_true rfl⟩ rfl (fun u H locs hH => ?_)
  have hH : HH G A s (mW G q f a) H locs := hH
  refine lv_if_eq (tgt := 21) hx hb dX3_enrol_14 (by decide) (fun c_14 => ?_) (fun c_14 => absurd rfl c_14)
  refine lv_iconst (v := 0) hx hb dX3_enrol_21 (by decide) ?_
  refine callVI0 (rest := []) F (c_X3_asks_0 l G q f a) gX3_enrol_X3_asks rfl hdX3_asks ⟨Nat.le_of_ble_eq_true rfl, Nat.le_of_ble_eq_true rfl⟩ hH ⟨0, 3, _, _, rfl, rfl, rfl⟩ rfl hl.1 (Nat.le_of_ble_eq_true rfl) dX3_enrol_22 ⟨Nat.le_of_ble_eq_true rfl, Nat.le_of_ble_eq_true rfl⟩ rfl (fun u H locs hH => ?_)
  have hH : HH G A s (mW G q (va_up f 24 1) a) H locs := hH
  refine lv_if_ne (tgt := 30) hx hb dX3_enrol_25 (by decide) (fun c_25 => absurd rfl c_25) (fun c_25 => ?_)
  refine lv_iconst (v := 0) hx hb dX3_enrol_28 (by decide) ?_
  exact retI F hr rfl (fun _ => 0) hH rfl (Nat.le_of_ble_eq_true rfl) (Nat.le_of_ble_eq_true rfl) dX3_enrol_29

set_option maxHeartbeats 4000000 in
set_option maxRecDepth 100000 in
theorem c_X3_pays (l : Launch) (G : Gx) (q : Nat → Nat) (f : Nat → Int32) (a : Nat → Nat → Int32) (i : Nat) (hi : i < 8) (cn : Nat) (e3 : a 3 i = nI cn) (hcn : cn ≤ 30) (nc : Nat) (e10 : f 10 = nI nc) (hnc : nc ≤ 10) (t : Nat) (e16 : f 16 = nI t) (ht : t < 201) : MI l yX3_pays wsX3_pays ({ frames := 3, cells := 0, slots := 0, locals := 72 } : Room) [.ref (q 0), .int (nI i)] G (mW G q f a) (fun u => mW G q f (payAM a i t cn nc (f 17))) (payRM a i t cn nc (f 17)) := by
  refine ofMI (cc := cX3_pays) (maxL := 8) (ret := (some .int)) (by decide) rfl (Nat.le_of_ble_eq_true rfl) (fun p e s m below meth c A ls F hr hnm hH hl => ?_)
  have F : Fx G p s m _ meth c cX3_pays 8 wsX3_pays RX3 A := F
  have hx := F.1.1
  have hb := F.1.2.1
  have hl : lv_has ls 8 [(0, .ref (q 0)), (1, .int (nI i))] := hl
  refine lv_sipush (v := 201) hx hb dX3_pays_0 (by decide) ?_
  refine lv_iload_n hx hb dX3_pays_3 rfl (lv_at hl 1 rfl) ?_
  refine lv_imul hx hb dX3_pays_4 ?_
  refine lv_aload_n hx hb dX3_pays_5 rfl (lv_at hl 0 rfl) ?_
  refine rget (C := RX3) (T := TX3) (N := 25) (ref := RX3) F in_X3_pays_X3 hH 0 rfl rfl 16 (by decide) (by decide +kernel) (fun _ h9 => h9) (v := .int (f 16)) rfl dX3_pays_6 ?_
  refine lv_iadd hx hb dX3_pays_9 ?_
  refine lv_istore_n (lv' := [(2, .int ((201 * (nI i)) + (f 16))), (0, .ref (q 0)), (1, .int (nI i))]) hx hb dX3_pays_10 rfl hl (by decide) rfl (fun ls hl => ?_)
  refine lv_aload_n hx hb dX3_pays_11 rfl (lv_at hl 1 rfl) ?_
  refine rget (C := RX3) (T := TX3) (N := 25) (ref := RX3) F in_X3_pays_X3 hH 0 rfl rfl 1 (by decide) (by decide +kernel) (fun _ h9 => h9) (v := .ref (q 1)) rfl dX3_pays_12 ?_
  refine lv_iload_n hx hb dX3_pays_15 rfl (lv_at hl 2 rfl) ?_
  refine riald F hH 1 (n := 8) (f := a 1) rfl i rfl (by omega) (by decide) dX3_pays_16 ?_
  refine lv_istore_n (lv' := [(3, .int (a 1 i)), (2, .int ((201 * (nI i)) + (f 16))), (0, .ref (q 0)), (1, .int (nI i))]) hx hb dX3_pays_17 rfl hl (by decide) rfl (fun ls hl => ?_)
  refine lv_aload_n hx hb dX3_pays_18 rfl (lv_at hl 2 rfl) ?_
  refine lv_iload_n hx hb dX3_pays_19 rfl (lv_at hl 3 rfl) ?_
  refine lv_aload_n hx hb dX3_pays_20 rfl (lv_at hl 2 rfl) ?_
  refine rget (C := RX3) (T := TX3) (N := 25) (ref := RX3) F in_X3_pays_X3 hH 0 rfl rfl 16 (by decide) (by decide +kernel) (fun _ h9 => h9) (v := .int (f 16)) rfl dX3_pays_21 ?_
  refine callVI0 (rest := []) F (c_X3_cutOf l G q f a i (by omega) cn e3 hcn (f 16)) gX3_pays_X3_cutOf rfl hdX3_cutOf ⟨Nat.le_of_ble_eq_true rfl, Nat.le_of_ble_eq_true rfl⟩ hH ⟨0, 3, _, _, rfl, rfl, rfl⟩ rfl hl.1 (Nat.le_of_ble_eq_true rfl) dX3_pays_24 ⟨Nat.le_of_ble_eq_true rfl, Nat.le_of_ble_eq_true rfl⟩ rfl (fun u H locs hH => ?_)
  have hH : HH G A s (mW G q f a) H locs := hH
  refine lv_istore (lv' := [(4, .int (cutM a i (f 16) cn)), (3, .int (a 1 i)), (2, .int ((201 * (nI i)) + (f 16))), (0, .ref (q 0)), (1, .int (nI i))]) hx hb dX3_pays_27 hl (by decide) rfl (fun ls hl => ?_)
  refine lv_iload_n hx hb dX3_pays_29 rfl (lv_at hl 1 rfl) ?_
  refine lv_bipush (v := 40) hx hb dX3_pays_30 (by decide) ?_
  refine lv_iload hx hb dX3_pays_32 (lv_at hl 0 rfl) ?_
  refine lv_isub hx hb dX3_pays_34 ?_
  refine lv_imul hx hb dX3_pays_35 ?_
  refine lv_bipush (v := 40) hx hb dX3_pays_36 (by decide) ?_
  refine lv_idiv hx hb dX3_pays_38 (by decide) ?_
  refine lv_istore (lv' := [(5, .int (((a 1 i) * (40 - (cutM a i (f 16) cn))) / 40)), (4, .int (cutM a i (f 16) cn)), (3, .int (a 1 i)), (2, .int ((201 * (nI i)) + (f 16))), (0, .ref (q 0)), (1, .int (nI i))]) hx hb dX3_pays_39 hl (by decide) rfl (fun ls hl => ?_)
  refine lv_iload_n hx hb dX3_pays_41 rfl (lv_at hl 2 rfl) ?_
  refine lv_iload hx hb dX3_pays_42 (lv_at hl 0 rfl) ?_
  refine lv_isub hx hb dX3_pays_44 ?_
  refine lv_aload_n hx hb dX3_pays_45 rfl (lv_at hl 4 rfl) ?_
  refine lv_iload_n hx hb dX3_pays_46 rfl (lv_at hl 5 rfl) ?_
  refine callVI0 (rest := [.int ((a 1 i) - (((a 1 i) * (40 - (cutM a i (f 16) cn))) / 40))]) F (c_X3_percent l G q f a i (by omega) cn e3 hcn nc e10 hnc t e16) gX3_pays_X3_percent rfl hdX3_percent ⟨Nat.le_of_ble_eq_true rfl, Nat.le_of_ble_eq_true rfl⟩ hH ⟨0, 3, _, _, rfl, rfl, rfl⟩ rfl hl.1 (Nat.le_of_ble_eq_true rfl) dX3_pays_47 ⟨Nat.le_of_ble_eq_true rfl, Nat.le_of_ble_eq_true rfl⟩ rfl (fun u H locs hH => ?_)
  have hH : HH G A s (mW G q f a) H locs := hH
  refine lv_imul hx hb dX3_pays_50 ?_
  refine lv_bipush (v := 100) hx hb dX3_pays_51 (by decide) ?_
  refine lv_idiv hx hb dX3_pays_53 (by decide) ?_
  refine lv_istore (lv' := [(6, .int ((((a 1 i) - (((a 1 i) * (40 - (cutM a i (f 16) cn))) / 40)) * (pctM (a 2 i) (a 7 i) (fillsN a i (f 16) (cutM a i (f 16) cn) nc))) / 100)), (5, .int (((a 1 i) * (40 - (cutM a i (f 16) cn))) / 40)), (4, .int (cutM a i (f 16) cn)), (3, .int (a 1 i)), (2, .int ((201 * (nI i)) + (f 16))), (0, .ref (q 0)), (1, .int (nI i))]) hx hb dX3_pays_54 hl (by decide) rfl (fun ls hl => ?_)
  refine lv_iload_n hx hb dX3_pays_56 rfl (lv_at hl 3 rfl) ?_
  refine lv_aload_n hx hb dX3_pays_57 rfl (lv_at hl 5 rfl) ?_
  refine rget (C := RX3) (T := TX3) (N := 25) (ref := RX3) F in_X3_pays_X3 hH 0 rfl rfl 17 (by decide) (by decide +kernel) (fun _ h9 => h9) (v := .int (f 17)) rfl dX3_pays_58 ?_
  refine lv_imul hx hb dX3_pays_61 ?_
  refine lv_bipush (v := 100) hx hb dX3_pays_62 (by decide) ?_
  refine lv_idiv hx hb dX3_pays_64 (by decide) ?_
  refine lv_istore (lv' := [(7, .int (((a 1 i) * (f 17)) / 100)), (6, .int ((((a 1 i) - (((a 1 i) * (40 - (cutM a i (f 16) cn))) / 40)) * (pctM (a 2 i) (a 7 i) (fillsN a i (f 16) (cutM a i (f 16) cn) nc))) / 100)), (5, .int (((a 1 i) * (40 - (cutM a i (f 16) cn))) / 40)), (4, .int (cutM a i (f 16) cn)), (3, .int (a 1 i)), (2, .int ((201 * (nI i)) + (f 16))), (0, .ref (q 0)), (1, .int (nI i))]) hx hb dX3_pays_65 hl (by decide) rfl (fun ls hl => ?_)
  refine lv_iload hx hb dX3_pays_67 (lv_at hl 2 rfl) ?_
  refine lv_iload hx hb dX3_pays_69 (lv_at hl 1 rfl) ?_
  refine lv_iadd hx hb dX3_pays_71 ?_
  refine lv_iload hx hb dX3_pays_72 (lv_at hl 0 rfl) ?_
  refine lv_icmp_ge (tgt := 85) hx hb dX3_pays_74 (by decide) (fun c_74 => ?_) (fun c_74 => ?_)
  · refine lv_iload hx hb dX3_pays_85 (lv_at hl 1 rfl) ?_
    refine lv_istore (lv' := [(6, .int ((((a 1 i) - (((a 1 i) * (40 - (cutM a i (f 16) cn))) / 40)) * (pctM (a 2 i) (a 7 i) (fillsN a i (f 16) (cutM a i (f 16) cn) nc))) / 100)), (7, .int (((a 1 i) * (f 17)) / 100)), (5, .int (((a 1 i) * (40 - (cutM a i (f 16) cn))) / 40)), (4, .int (cutM a i (f 16) cn)), (3, .int (a 1 i)), (2, .int ((201 * (nI i)) + (f 16))), (0, .ref (q 0)), (1, .int (nI i))]) hx hb dX3_pays_87 hl (by decide) rfl (fun ls hl => ?_)
    refine lv_iload hx hb dX3_pays_89 (lv_at hl 2 rfl) ?_
    refine lv_iload hx hb dX3_pays_91 (lv_at hl 0 rfl) ?_
    refine lv_iadd hx hb dX3_pays_93 ?_
    refine lv_iload_n hx hb dX3_pays_94 rfl (lv_at hl 4 rfl) ?_
    refine lv_icmp_le (tgt := 105) hx hb dX3_pays_95 (by decide) (fun c_95 => ?_) (fun c_95 => ?_)
    · refine lv_iload hx hb dX3_pays_105 (lv_at hl 0 rfl) ?_
      refine lv_istore (lv' := [(6, .int ((((a 1 i) - (((a 1 i) * (40 - (cutM a i (f 16) cn))) / 40)) * (pctM (a 2 i) (a 7 i) (fillsN a i (f 16) (cutM a i (f 16) cn) nc))) / 100)), (7, .int (((a 1 i) * (f 17)) / 100)), (5, .int (((a 1 i) * (40 - (cutM a i (f 16) cn))) / 40)), (4, .int (cutM a i (f 16) cn)), (3, .int (a 1 i)), (2, .int ((201 * (nI i)) + (f 16))), (0, .ref (q 0)), (1, .int (nI i))]) hx hb dX3_pays_107 hl (by decide) rfl (fun ls hl => ?_)
      refine lv_aload_n hx hb dX3_pays_109 rfl (lv_at hl 6 rfl) ?_
      refine rget (C := RX3) (T := TX3) (N := 25) (ref := RX3) F in_X3_pays_X3 hH 0 rfl rfl 18 (by decide) (by decide +kernel) (fun _ h9 => h9) (v := .ref (q 18)) rfl dX3_pays_110 ?_
      refine lv_iload_n hx hb dX3_pays_113 rfl (lv_at hl 5 rfl) ?_
      refine lv_iload hx hb dX3_pays_114 (lv_at hl 2 rfl) ?_
      refine riast F hH 14 (n := 1608) (f := a 18) rfl (201 * i + t) (by rw [e16, ix201]) (by omega) (by decide) dX3_pays_116 (fun H locs hH => ?_)
      have hH : HH G A s (mW G q f (va_up a 18 (upd (a 18) (201 * i + t) (((a 1 i) * (40 - (cutM a i (f 16) cn))) / 40)))) H locs := hH
      refine lv_aload_n hx hb dX3_pays_117 rfl (lv_at hl 6 rfl) ?_
      refine rget (C := RX3) (T := TX3) (N := 25) (ref := RX3) F in_X3_pays_X3 hH 0 rfl rfl 19 (by decide) (by decide +kernel) (fun _ h9 => h9) (v := .ref (q 19)) rfl dX3_pays_118 ?_
      refine lv_iload_n hx hb dX3_pays_121 rfl (lv_at hl 5 rfl) ?_
      refine lv_iload hx hb dX3_pays_122 (lv_at hl 0 rfl) ?_
      refine riast F hH 15 (n := 1608) (f := a 19) rfl (201 * i + t) (by rw [e16, ix201]) (by omega) (by decide) dX3_pays_124 (fun H locs hH => ?_)
      have hH : HH G A s (mW G q f (va_up (va_up a 18 (upd (a 18) (201 * i + t) (((a 1 i) * (40 - (cutM a i (f 16) cn))) / 40))) 19 (upd (a 19) (201 * i + t) ((((a 1 i) - (((a 1 i) * (40 - (cutM a i (f 16) cn))) / 40)) * (pctM (a 2 i) (a 7 i) (fillsN a i (f 16) (cutM a i (f 16) cn) nc))) / 100)))) H locs := hH
      refine lv_aload_n hx hb dX3_pays_125 rfl (lv_at hl 6 rfl) ?_
      refine rget (C := RX3) (T := TX3) (N := 25) (ref := RX3) F in_X3_pays_X3 hH 0 rfl rfl 20 (by decide) (by decide +kernel) (fun _ h9 => h9) (v := .ref (q 20)) rfl dX3_pays_126 ?_
      refine lv_iload_n hx hb dX3_pays_129 rfl (lv_at hl 5 rfl) ?_
      refine lv_iload hx hb dX3_pays_130 (lv_at hl 3 rfl) ?_
      refine riast F hH 16 (n := 1608) (f := a 20) rfl (201 * i + t) (by rw [e16, ix201]) (by omega) (by decide) dX3_pays_132 (fun H locs hH => ?_)
      have hH : HH G A s (mW G q f (va_up (va_up (va_up a 18 (upd (a 18) (201 * i + t) (((a 1 i) * (40 - (cutM a i (f 16) cn))) / 40))) 19 (upd (a 19) (201 * i + t) ((((a 1 i) - (((a 1 i) * (40 - (cutM a i (f 16) cn))) / 40)) * (pctM (a 2 i) (a 7 i) (fillsN a i (f 16) (cutM a i (f 16) cn) nc))) / 100))) 20 (upd (a 20) (201 * i + t) (cutM a i (f 16) cn)))) H locs := hH
      refine lv_aload_n hx hb dX3_pays_133 rfl (lv_at hl 6 rfl) ?_
      refine rget (C := RX3) (T := TX3) (N := 25) (ref := RX3) F in_X3_pays_X3 hH 0 rfl rfl 7 (by decide) (by decide +kernel) (fun _ h9 => h9) (v := .ref (q 7)) rfl dX3_pays_134 ?_
      refine lv_iload_n hx hb dX3_pays_137 rfl (lv_at hl 7 rfl) ?_
      refine lv_dup2_11 hx hb dX3_pays_138 rfl rfl ?_
      refine riald F hH 7 (n := 8) (f := a 7) rfl i rfl (by omega) (by decide) dX3_pays_139 ?_
      refine lv_iload hx hb dX3_pays_140 (lv_at hl 3 rfl) ?_
      refine lv_if_le (tgt := 149) hx hb dX3_pays_142 (by decide) (fun c_142 => ?_) (fun c_142 => ?_)
      · refine lv_iconst (v := 0) hx hb dX3_pays_149 (by decide) ?_
        refine lv_iadd hx hb dX3_pays_150 ?_
        refine riast F hH 7 (n := 8) (f := a 7) rfl i rfl (by omega) (by decide) dX3_pays_151 (fun H locs hH => ?_)
        have hH : HH G A s (mW G q f (va_up (va_up (va_up (va_up a 18 (upd (a 18) (201 * i + t) (((a 1 i) * (40 - (cutM a i (f 16) cn))) / 40))) 19 (upd (a 19) (201 * i + t) ((((a 1 i) - (((a 1 i) * (40 - (cutM a i (f 16) cn))) / 40)) * (pctM (a 2 i) (a 7 i) (fillsN a i (f 16) (cutM a i (f 16) cn) nc))) / 100))) 20 (upd (a 20) (201 * i + t) (cutM a i (f 16) cn))) 7 (upd (a 7) i ((a 7 i) + 0)))) H locs := hH
        refine lv_iload hx hb dX3_pays_152 (lv_at hl 0 rfl) ?_
        exact retI F hr rfl (fun _ => 0) (by unfold payAM payRM pcM hourM madeM firmP; rw [← e16, if_pos c_74, if_pos c_95, if_pos c_142]; exact hH) (by unfold payRM pcM hourM madeM firmP; rw [← e16, if_pos c_74, if_pos c_95]) (Nat.le_of_ble_eq_true rfl) (Nat.le_of_ble_eq_true rfl) dX3_pays_154
      · refine lv_iconst (v := 1) hx hb dX3_pays_145 (by decide) ?_
        refine lv_goto (tgt := 150) hx hb dX3_pays_146 (by decide) ?_
        refine lv_iadd hx hb dX3_pays_150 ?_
        refine riast F hH 7 (n := 8) (f := a 7) rfl i rfl (by omega) (by decide) dX3_pays_151 (fun H locs hH => ?_)
        have hH : HH G A s (mW G q f (va_up (va_up (va_up (va_up a 18 (upd (a 18) (201 * i + t) (((a 1 i) * (40 - (cutM a i (f 16) cn))) / 40))) 19 (upd (a 19) (201 * i + t) ((((a 1 i) - (((a 1 i) * (40 - (cutM a i (f 16) cn))) / 40)) * (pctM (a 2 i) (a 7 i) (fillsN a i (f 16) (cutM a i (f 16) cn) nc))) / 100))) 20 (upd (a 20) (201 * i + t) (cutM a i (f 16) cn))) 7 (upd (a 7) i ((a 7 i) + 1)))) H locs := hH
        refine lv_iload hx hb dX3_pays_152 (lv_at hl 0 rfl) ?_
        exact retI F hr rfl (fun _ => 0) (by unfold payAM payRM pcM hourM madeM firmP; rw [← e16, if_pos c_74, if_pos c_95, if_neg c_142]; exact hH) (by unfold payRM pcM hourM madeM firmP; rw [← e16, if_pos c_74, if_pos c_95]) (Nat.le_of_ble_eq_true rfl) (Nat.le_of_ble_eq_true rfl) dX3_pays_154
    · refine lv_iload_n hx hb dX3_pays_98 rfl (lv_at hl 4 rfl) ?_
      refine lv_iload hx hb dX3_pays_99 (lv_at hl 2 rfl) ?_
      refine lv_isub hx hb dX3_pays_101 ?_
      refine lv_goto (tgt := 107) hx hb dX3_pays_102 (by decide) ?_
      refine lv_istore (lv' := [(6, .int ((a 1 i) - (((a 1 i) * (40 - (cutM a i (f 16) cn))) / 40))), (7, .int (((a 1 i) * (f 17)) / 100)), (5, .int (((a 1 i) * (40 - (cutM a i (f 16) cn))) / 40)), (4, .int (cutM a i (f 16) cn)), (3, .int (a 1 i)), (2, .int ((201 * (nI i)) + (f 16))), (0, .ref (q 0)), (1, .int (nI i))]) hx hb dX3_pays_107 hl (by decide) rfl (fun ls hl => ?_)
      refine lv_aload_n hx hb dX3_pays_109 rfl (lv_at hl 6 rfl) ?_
      refine rget (C := RX3) (T := TX3) (N := 25) (ref := RX3) F in_X3_pays_X3 hH 0 rfl rfl 18 (by decide) (by decide +kernel) (fun _ h9 => h9) (v := .ref (q 18)) rfl dX3_pays_110 ?_
      refine lv_iload_n hx hb dX3_pays_113 rfl (lv_at hl 5 rfl) ?_
      refine lv_iload hx hb dX3_pays_114 (lv_at hl 2 rfl) ?_
      refine riast F hH 14 (n := 1608) (f := a 18) rfl (201 * i + t) (by rw [e16, ix201]) (by omega) (by decide) dX3_pays_116 (fun H locs hH => ?_)
      have hH : HH G A s (mW G q f (va_up a 18 (upd (a 18) (201 * i + t) (((a 1 i) * (40 - (cutM a i (f 16) cn))) / 40)))) H locs := hH
      refine lv_aload_n hx hb dX3_pays_117 rfl (lv_at hl 6 rfl) ?_
      refine rget (C := RX3) (T := TX3) (N := 25) (ref := RX3) F in_X3_pays_X3 hH 0 rfl rfl 19 (by decide) (by decide +kernel) (fun _ h9 => h9) (v := .ref (q 19)) rfl dX3_pays_118 ?_
      refine lv_iload_n hx hb dX3_pays_121 rfl (lv_at hl 5 rfl) ?_
      refine lv_iload hx hb dX3_pays_122 (lv_at hl 0 rfl) ?_
      refine riast F hH 15 (n := 1608) (f := a 19) rfl (201 * i + t) (by rw [e16, ix201]) (by omega) (by decide) dX3_pays_124 (fun H locs hH => ?_)
      have hH : HH G A s (mW G q f (va_up (va_up a 18 (upd (a 18) (201 * i + t) (((a 1 i) * (40 - (cutM a i (f 16) cn))) / 40))) 19 (upd (a 19) (201 * i + t) ((a 1 i) - (((a 1 i) * (40 - (cutM a i (f 16) cn))) / 40))))) H locs := hH
      refine lv_aload_n hx hb dX3_pays_125 rfl (lv_at hl 6 rfl) ?_
      refine rget (C := RX3) (T := TX3) (N := 25) (ref := RX3) F in_X3_pays_X3 hH 0 rfl rfl 20 (by decide) (by decide +kernel) (fun _ h9 => h9) (v := .ref (q 20)) rfl dX3_pays_126 ?_
      refine lv_iload_n hx hb dX3_pays_129 rfl (lv_at hl 5 rfl) ?_
      refine lv_iload hx hb dX3_pays_130 (lv_at hl 3 rfl) ?_
      refine riast F hH 16 (n := 1608) (f := a 20) rfl (201 * i + t) (by rw [e16, ix201]) (by omega) (by decide) dX3_pays_132 (fun H locs hH => ?_)
      have hH : HH G A s (mW G q f (va_up (va_up (va_up a 18 (upd (a 18) (201 * i + t) (((a 1 i) * (40 - (cutM a i (f 16) cn))) / 40))) 19 (upd (a 19) (201 * i + t) ((a 1 i) - (((a 1 i) * (40 - (cutM a i (f 16) cn))) / 40)))) 20 (upd (a 20) (201 * i + t) (cutM a i (f 16) cn)))) H locs := hH
      refine lv_aload_n hx hb dX3_pays_133 rfl (lv_at hl 6 rfl) ?_
      refine rget (C := RX3) (T := TX3) (N := 25) (ref := RX3) F in_X3_pays_X3 hH 0 rfl rfl 7 (by decide) (by decide +kernel) (fun _ h9 => h9) (v := .ref (q 7)) rfl dX3_pays_134 ?_
      refine lv_iload_n hx hb dX3_pays_137 rfl (lv_at hl 7 rfl) ?_
      refine lv_dup2_11 hx hb dX3_pays_138 rfl rfl ?_
      refine riald F hH 7 (n := 8) (f := a 7) rfl i rfl (by omega) (by decide) dX3_pays_139 ?_
      refine lv_iload hx hb dX3_pays_140 (lv_at hl 3 rfl) ?_
      refine lv_if_le (tgt := 149) hx hb dX3_pays_142 (by decide) (fun c_142 => ?_) (fun c_142 => ?_)
      · refine lv_iconst (v := 0) hx hb dX3_pays_149 (by decide) ?_
        refine lv_iadd hx hb dX3_pays_150 ?_
        refine riast F hH 7 (n := 8) (f := a 7) rfl i rfl (by omega) (by decide) dX3_pays_151 (fun H locs hH => ?_)
        have hH : HH G A s (mW G q f (va_up (va_up (va_up (va_up a 18 (upd (a 18) (201 * i + t) (((a 1 i) * (40 - (cutM a i (f 16) cn))) / 40))) 19 (upd (a 19) (201 * i + t) ((a 1 i) - (((a 1 i) * (40 - (cutM a i (f 16) cn))) / 40)))) 20 (upd (a 20) (201 * i + t) (cutM a i (f 16) cn))) 7 (upd (a 7) i ((a 7 i) + 0)))) H locs := hH
        refine lv_iload hx hb dX3_pays_152 (lv_at hl 0 rfl) ?_
        exact retI F hr rfl (fun _ => 0) (by unfold payAM payRM pcM hourM madeM firmP; rw [← e16, if_pos c_74, if_neg c_95, if_pos c_142]; exact hH) (by unfold payRM pcM hourM madeM firmP; rw [← e16, if_pos c_74, if_neg c_95]) (Nat.le_of_ble_eq_true rfl) (Nat.le_of_ble_eq_true rfl) dX3_pays_154
      · refine lv_iconst (v := 1) hx hb dX3_pays_145 (by decide) ?_
        refine lv_goto (tgt := 150) hx hb dX3_pays_146 (by decide) ?_
        refine lv_iadd hx hb dX3_pays_150 ?_
        refine riast F hH 7 (n := 8) (f := a 7) rfl i rfl (by omega) (by decide) dX3_pays_151 (fun H locs hH => ?_)
        have hH : HH G A s (mW G q f (va_up (va_up (va_up (va_up a 18 (upd (a 18) (201 * i + t) (((a 1 i) * (40 - (cutM a i (f 16) cn))) / 40))) 19 (upd (a 19) (201 * i + t) ((a 1 i) - (((a 1 i) * (40 - (cutM a i (f 16) cn))) / 40)))) 20 (upd (a 20) (201 * i + t) (cutM a i (f 16) cn))) 7 (upd (a 7) i ((a 7 i) + 1)))) H locs := hH
        refine lv_iload hx hb dX3_pays_152 (lv_at hl 0 rfl) ?_
        exact retI F hr rfl (fun _ => 0) (by unfold payAM payRM pcM hourM madeM firmP; rw [← e16, if_pos c_74, if_neg c_95, if_neg c_142]; exact hH) (by unfold payRM pcM hourM madeM firmP; rw [← e16, if_pos c_74, if_neg c_95]) (Nat.le_of_ble_eq_true rfl) (Nat.le_of_ble_eq_true rfl) dX3_pays_154
  · refine lv_iload hx hb dX3_pays_77 (lv_at hl 0 rfl) ?_
    refine lv_iload hx hb dX3_pays_79 (lv_at hl 2 rfl) ?_
    refine lv_isub hx hb dX3_pays_81 ?_
    refine lv_goto (tgt := 87) hx hb dX3_pays_82 (by decide) ?_
    refine lv_istore (lv' := [(6, .int ((((a 1 i) * (f 17)) / 100) - (((a 1 i) * (40 - (cutM a i (f 16) cn))) / 40))), (7, .int (((a 1 i) * (f 17)) / 100)), (5, .int (((a 1 i) * (40 - (cutM a i (f 16) cn))) / 40)), (4, .int (cutM a i (f 16) cn)), (3, .int (a 1 i)), (2, .int ((201 * (nI i)) + (f 16))), (0, .ref (q 0)), (1, .int (nI i))]) hx hb dX3_pays_87 hl (by decide) rfl (fun ls hl => ?_)
    refine lv_iload hx hb dX3_pays_89 (lv_at hl 2 rfl) ?_
    refine lv_iload hx hb dX3_pays_91 (lv_at hl 0 rfl) ?_
    refine lv_iadd hx hb dX3_pays_93 ?_
    refine lv_iload_n hx hb dX3_pays_94 rfl (lv_at hl 4 rfl) ?_
    refine lv_icmp_le (tgt := 105) hx hb dX3_pays_95 (by decide) (fun c_95 => ?_) (fun c_95 => ?_)
    · refine lv_iload hx hb dX3_pays_105 (lv_at hl 0 rfl) ?_
      refine lv_istore (lv' := [(6, .int ((((a 1 i) * (f 17)) / 100) - (((a 1 i) * (40 - (cutM a i (f 16) cn))) / 40))), (7, .int (((a 1 i) * (f 17)) / 100)), (5, .int (((a 1 i) * (40 - (cutM a i (f 16) cn))) / 40)), (4, .int (cutM a i (f 16) cn)), (3, .int (a 1 i)), (2, .int ((201 * (nI i)) + (f 16))), (0, .ref (q 0)), (1, .int (nI i))]) hx hb dX3_pays_107 hl (by decide) rfl (fun ls hl => ?_)
      refine lv_aload_n hx hb dX3_pays_109 rfl (lv_at hl 6 rfl) ?_
      refine rget (C := RX3) (T := TX3) (N := 25) (ref := RX3) F in_X3_pays_X3 hH 0 rfl rfl 18 (by decide) (by decide +kernel) (fun _ h9 => h9) (v := .ref (q 18)) rfl dX3_pays_110 ?_
      refine lv_iload_n hx hb dX3_pays_113 rfl (lv_at hl 5 rfl) ?_
      refine lv_iload hx hb dX3_pays_114 (lv_at hl 2 rfl) ?_
      refine riast F hH 14 (n := 1608) (f := a 18) rfl (201 * i + t) (by rw [e16, ix201]) (by omega) (by decide) dX3_pays_116 (fun H locs hH => ?_)
      have hH : HH G A s (mW G q f (va_up a 18 (upd (a 18) (201 * i + t) (((a 1 i) * (40 - (cutM a i (f 16) cn))) / 40)))) H locs := hH
      refine lv_aload_n hx hb dX3_pays_117 rfl (lv_at hl 6 rfl) ?_
      refine rget (C := RX3) (T := TX3) (N := 25) (ref := RX3) F in_X3_pays_X3 hH 0 rfl rfl 19 (by decide) (by decide +kernel) (fun _ h9 => h9) (v := .ref (q 19)) rfl dX3_pays_118 ?_
      refine lv_iload_n hx hb dX3_pays_121 rfl (lv_at hl 5 rfl) ?_
      refine lv_iload hx hb dX3_pays_122 (lv_at hl 0 rfl) ?_
      refine riast F hH 15 (n := 1608) (f := a 19) rfl (201 * i + t) (by rw [e16, ix201]) (by omega) (by decide) dX3_pays_124 (fun H locs hH => ?_)
      have hH : HH G A s (mW G q f (va_up (va_up a 18 (upd (a 18) (201 * i + t) (((a 1 i) * (40 - (cutM a i (f 16) cn))) / 40))) 19 (upd (a 19) (201 * i + t) ((((a 1 i) * (f 17)) / 100) - (((a 1 i) * (40 - (cutM a i (f 16) cn))) / 40))))) H locs := hH
      refine lv_aload_n hx hb dX3_pays_125 rfl (lv_at hl 6 rfl) ?_
      refine rget (C := RX3) (T := TX3) (N := 25) (ref := RX3) F in_X3_pays_X3 hH 0 rfl rfl 20 (by decide) (by decide +kernel) (fun _ h9 => h9) (v := .ref (q 20)) rfl dX3_pays_126 ?_
      refine lv_iload_n hx hb dX3_pays_129 rfl (lv_at hl 5 rfl) ?_
      refine lv_iload hx hb dX3_pays_130 (lv_at hl 3 rfl) ?_
      refine riast F hH 16 (n := 1608) (f := a 20) rfl (201 * i + t) (by rw [e16, ix201]) (by omega) (by decide) dX3_pays_132 (fun H locs hH => ?_)
      have hH : HH G A s (mW G q f (va_up (va_up (va_up a 18 (upd (a 18) (201 * i + t) (((a 1 i) * (40 - (cutM a i (f 16) cn))) / 40))) 19 (upd (a 19) (201 * i + t) ((((a 1 i) * (f 17)) / 100) - (((a 1 i) * (40 - (cutM a i (f 16) cn))) / 40)))) 20 (upd (a 20) (201 * i + t) (cutM a i (f 16) cn)))) H locs := hH
      refine lv_aload_n hx hb dX3_pays_133 rfl (lv_at hl 6 rfl) ?_
      refine rget (C := RX3) (T := TX3) (N := 25) (ref := RX3) F in_X3_pays_X3 hH 0 rfl rfl 7 (by decide) (by decide +kernel) (fun _ h9 => h9) (v := .ref (q 7)) rfl dX3_pays_134 ?_
      refine lv_iload_n hx hb dX3_pays_137 rfl (lv_at hl 7 rfl) ?_
      refine lv_dup2_11 hx hb dX3_pays_138 rfl rfl ?_
      refine riald F hH 7 (n := 8) (f := a 7) rfl i rfl (by omega) (by decide) dX3_pays_139 ?_
      refine lv_iload hx hb dX3_pays_140 (lv_at hl 3 rfl) ?_
      refine lv_if_le (tgt := 149) hx hb dX3_pays_142 (by decide) (fun c_142 => ?_) (fun c_142 => ?_)
      · refine lv_iconst (v := 0) hx hb dX3_pays_149 (by decide) ?_
        refine lv_iadd hx hb dX3_pays_150 ?_
        refine riast F hH 7 (n := 8) (f := a 7) rfl i rfl (by omega) (by decide) dX3_pays_151 (fun H locs hH => ?_)
        have hH : HH G A s (mW G q f (va_up (va_up (va_up (va_up a 18 (upd (a 18) (201 * i + t) (((a 1 i) * (40 - (cutM a i (f 16) cn))) / 40))) 19 (upd (a 19) (201 * i + t) ((((a 1 i) * (f 17)) / 100) - (((a 1 i) * (40 - (cutM a i (f 16) cn))) / 40)))) 20 (upd (a 20) (201 * i + t) (cutM a i (f 16) cn))) 7 (upd (a 7) i ((a 7 i) + 0)))) H locs := hH
        refine lv_iload hx hb dX3_pays_152 (lv_at hl 0 rfl) ?_
        exact retI F hr rfl (fun _ => 0) (by unfold payAM payRM pcM hourM madeM firmP; rw [← e16, if_neg c_74, if_pos c_95, if_pos c_142]; exact hH) (by unfold payRM pcM hourM madeM firmP; rw [← e16, if_neg c_74, if_pos c_95]) (Nat.le_of_ble_eq_true rfl) (Nat.le_of_ble_eq_true rfl) dX3_pays_154
      · refine lv_iconst (v := 1) hx hb dX3_pays_145 (by decide) ?_
        refine lv_goto (tgt := 150) hx hb dX3_pays_146 (by decide) ?_
        refine lv_iadd hx hb dX3_pays_150 ?_
        refine riast F hH 7 (n := 8) (f := a 7) rfl i rfl (by omega) (by decide) dX3_pays_151 (fun H locs hH => ?_)
        have hH : HH G A s (mW G q f (va_up (va_up (va_up (va_up a 18 (upd (a 18) (201 * i + t) (((a 1 i) * (40 - (cutM a i (f 16) cn))) / 40))) 19 (upd (a 19) (201 * i + t) ((((a 1 i) * (f 17)) / 100) - (((a 1 i) * (40 - (cutM a i (f 16) cn))) / 40)))) 20 (upd (a 20) (201 * i + t) (cutM a i (f 16) cn))) 7 (upd (a 7) i ((a 7 i) + 1)))) H locs := hH
        refine lv_iload hx hb dX3_pays_152 (lv_at hl 0 rfl) ?_
        exact retI F hr rfl (fun _ => 0) (by unfold payAM payRM pcM hourM madeM firmP; rw [← e16, if_neg c_74, if_pos c_95, if_neg c_142]; exact hH) (by unfold payRM pcM hourM madeM firmP; rw [← e16, if_neg c_74, if_pos c_95]) (Nat.le_of_ble_eq_true rfl) (Nat.le_of_ble_eq_true rfl) dX3_pays_154
    · refine lv_iload_n hx hb dX3_pays_98 rfl (lv_at hl 4 rfl) ?_
      refine lv_iload hx hb dX3_pays_99 (lv_at hl 2 rfl) ?_
      refine lv_isub hx hb dX3_pays_101 ?_
      refine lv_goto (tgt := 107) hx hb dX3_pays_102 (by decide) ?_
      refine lv_istore (lv' := [(6, .int ((a 1 i) - (((a 1 i) * (40 - (cutM a i (f 16) cn))) / 40))), (7, .int (((a 1 i) * (f 17)) / 100)), (5, .int (((a 1 i) * (40 - (cutM a i (f 16) cn))) / 40)), (4, .int (cutM a i (f 16) cn)), (3, .int (a 1 i)), (2, .int ((201 * (nI i)) + (f 16))), (0, .ref (q 0)), (1, .int (nI i))]) hx hb dX3_pays_107 hl (by decide) rfl (fun ls hl => ?_)
      refine lv_aload_n hx hb dX3_pays_109 rfl (lv_at hl 6 rfl) ?_
      refine rget (C := RX3) (T := TX3) (N := 25) (ref := RX3) F in_X3_pays_X3 hH 0 rfl rfl 18 (by decide) (by decide +kernel) (fun _ h9 => h9) (v := .ref (q 18)) rfl dX3_pays_110 ?_
      refine lv_iload_n hx hb dX3_pays_113 rfl (lv_at hl 5 rfl) ?_
      refine lv_iload hx hb dX3_pays_114 (lv_at hl 2 rfl) ?_
      refine riast F hH 14 (n := 1608) (f := a 18) rfl (201 * i + t) (by rw [e16, ix201]) (by omega) (by decide) dX3_pays_116 (fun H locs hH => ?_)
      have hH : HH G A s (mW G q f (va_up a 18 (upd (a 18) (201 * i + t) (((a 1 i) * (40 - (cutM a i (f 16) cn))) / 40)))) H locs := hH
      refine lv_aload_n hx hb dX3_pays_117 rfl (lv_at hl 6 rfl) ?_
      refine rget (C := RX3) (T := TX3) (N := 25) (ref := RX3) F in_X3_pays_X3 hH 0 rfl rfl 19 (by decide) (by decide +kernel) (fun _ h9 => h9) (v := .ref (q 19)) rfl dX3_pays_118 ?_
      refine lv_iload_n hx hb dX3_pays_121 rfl (lv_at hl 5 rfl) ?_
      refine lv_iload hx hb dX3_pays_122 (lv_at hl 0 rfl) ?_
      refine riast F hH 15 (n := 1608) (f := a 19) rfl (201 * i + t) (by rw [e16, ix201]) (by omega) (by decide) dX3_pays_124 (fun H locs hH => ?_)
      have hH : HH G A s (mW G q f (va_up (va_up a 18 (upd (a 18) (201 * i + t) (((a 1 i) * (40 - (cutM a i (f 16) cn))) / 40))) 19 (upd (a 19) (201 * i + t) ((a 1 i) - (((a 1 i) * (40 - (cutM a i (f 16) cn))) / 40))))) H locs := hH
      refine lv_aload_n hx hb dX3_pays_125 rfl (lv_at hl 6 rfl) ?_
      refine rget (C := RX3) (T := TX3) (N := 25) (ref := RX3) F in_X3_pays_X3 hH 0 rfl rfl 20 (by decide) (by decide +kernel) (fun _ h9 => h9) (v := .ref (q 20)) rfl dX3_pays_126 ?_
      refine lv_iload_n hx hb dX3_pays_129 rfl (lv_at hl 5 rfl) ?_
      refine lv_iload hx hb dX3_pays_130 (lv_at hl 3 rfl) ?_
      refine riast F hH 16 (n := 1608) (f := a 20) rfl (201 * i + t) (by rw [e16, ix201]) (by omega) (by decide) dX3_pays_132 (fun H locs hH => ?_)
      have hH : HH G A s (mW G q f (va_up (va_up (va_up a 18 (upd (a 18) (201 * i + t) (((a 1 i) * (40 - (cutM a i (f 16) cn))) / 40))) 19 (upd (a 19) (201 * i + t) ((a 1 i) - (((a 1 i) * (40 - (cutM a i (f 16) cn))) / 40)))) 20 (upd (a 20) (201 * i + t) (cutM a i (f 16) cn)))) H locs := hH
      refine lv_aload_n hx hb dX3_pays_133 rfl (lv_at hl 6 rfl) ?_
      refine rget (C := RX3) (T := TX3) (N := 25) (ref := RX3) F in_X3_pays_X3 hH 0 rfl rfl 7 (by decide) (by decide +kernel) (fun _ h9 => h9) (v := .ref (q 7)) rfl dX3_pays_134 ?_
      refine lv_iload_n hx hb dX3_pays_137 rfl (lv_at hl 7 rfl) ?_
      refine lv_dup2_11 hx hb dX3_pays_138 rfl rfl ?_
      refine riald F hH 7 (n := 8) (f := a 7) rfl i rfl (by omega) (by decide) dX3_pays_139 ?_
      refine lv_iload hx hb dX3_pays_140 (lv_at hl 3 rfl) ?_
      refine lv_if_le (tgt := 149) hx hb dX3_pays_142 (by decide) (fun c_142 => ?_) (fun c_142 => ?_)
      · refine lv_iconst (v := 0) hx hb dX3_pays_149 (by decide) ?_
        refine lv_iadd hx hb dX3_pays_150 ?_
        refine riast F hH 7 (n := 8) (f := a 7) rfl i rfl (by omega) (by decide) dX3_pays_151 (fun H locs hH => ?_)
        have hH : HH G A s (mW G q f (va_up (va_up (va_up (va_up a 18 (upd (a 18) (201 * i + t) (((a 1 i) * (40 - (cutM a i (f 16) cn))) / 40))) 19 (upd (a 19) (201 * i + t) ((a 1 i) - (((a 1 i) * (40 - (cutM a i (f 16) cn))) / 40)))) 20 (upd (a 20) (201 * i + t) (cutM a i (f 16) cn))) 7 (upd (a 7) i ((a 7 i) + 0)))) H locs := hH
        refine lv_iload hx hb dX3_pays_152 (lv_at hl 0 rfl) ?_
        exact retI F hr rfl (fun _ => 0) (by unfold payAM payRM pcM hourM madeM firmP; rw [← e16, if_neg c_74, if_neg c_95, if_pos c_142]; exact hH) (by unfold payRM pcM hourM madeM firmP; rw [← e16, if_neg c_74, if_neg c_95]) (Nat.le_of_ble_eq_true rfl) (Nat.le_of_ble_eq_true rfl) dX3_pays_154
      · refine lv_iconst (v := 1) hx hb dX3_pays_145 (by decide) ?_
        refine lv_goto (tgt := 150) hx hb dX3_pays_146 (by decide) ?_
        refine lv_iadd hx hb dX3_pays_150 ?_
        refine riast F hH 7 (n := 8) (f := a 7) rfl i rfl (by omega) (by decide) dX3_pays_151 (fun H locs hH => ?_)
        have hH : HH G A s (mW G q f (va_up (va_up (va_up (va_up a 18 (upd (a 18) (201 * i + t) (((a 1 i) * (40 - (cutM a i (f 16) cn))) / 40))) 19 (upd (a 19) (201 * i + t) ((a 1 i) - (((a 1 i) * (40 - (cutM a i (f 16) cn))) / 40)))) 20 (upd (a 20) (201 * i + t) (cutM a i (f 16) cn))) 7 (upd (a 7) i ((a 7 i) + 1)))) H locs := hH
        refine lv_iload hx hb dX3_pays_152 (lv_at hl 0 rfl) ?_
        exact retI F hr rfl (fun _ => 0) (by unfold payAM payRM pcM hourM madeM firmP; rw [← e16, if_neg c_74, if_neg c_95, if_neg c_142]; exact hH) (by unfold payRM pcM hourM madeM firmP; rw [← e16, if_neg c_74, if_neg c_95]) (Nat.le_of_ble_eq_true rfl) (Nat.le_of_ble_eq_true rfl) dX3_pays_154

set_option maxHeartbeats 4000000 in
set_option maxRecDepth 100000 in
theorem c_X3_net_1 (l : Launch) (G : Gx) (q : Nat → Nat) (f : Nat → Int32) (a : Nat → Nat → Int32) (n : Nat) (e0 : f 0 = nI n) (hn : n ≤ 8) (i : Nat) (hi : i < n) : MI l yX3_net wsX3_net ({ frames := 1, cells := 0, slots := 0, locals := 21 } : Room) [.ref (q 0), .int (nI i)] G (mW G q f a) (fun u => mW G q (va_up f 24 0) a) (netN a i 201) := by
  refine ofMI (cc := cX3_net) (maxL := 4) (ret := (some .int)) (by decide) rfl (Nat.le_of_ble_eq_true rfl) (fun p e s m below meth c A ls F hr hnm hH hl => ?_)
  have F : Fx G p s m _ meth c cX3_net 4 wsX3_net RX3 A := F
  have hx := F.1.1
  have hb := F.1.2.1
  have hl : lv_has ls 4 [(0, .ref (q 0)), (1, .int (nI i))] := hl
  refine lv_aload_n hx hb dX3_net_0 rfl (lv_at hl 0 rfl) ?_
  refine lv_aload_n hx hb dX3_net_1 rfl (lv_at hl 0 rfl) ?_
  refine lv_iload_n hx hb dX3_net_2 rfl (lv_at hl 1 rfl) ?_
  refine callVI0 (rest := [.ref (q 0)]) F (c_X3_isWorker_1 l G q f a n e0 hn i hi) gX3_net_X3_isWorker rfl hdX3_isWorker ⟨Nat.le_of_ble_eq_true rfl, Nat.le_of_ble_eq_true rfl⟩ hH ⟨0, 3, _, _, rfl, rfl, rfl⟩ rfl hl.1 (Nat.le_of_ble_eq_true rfl) dX3_net_3 ⟨Nat.le_of_ble_eq_true rfl, Nat.le_of_ble_eq_true rfl⟩ rfl (fun u H locs hH => ?_)
  have hH : HH G A s (mW G q f a) H locs := hH
  refine callVI0 (rest := []) F (c_X3_asks_1 l G q f a) gX3_net_X3_asks rfl hdX3_asks ⟨Nat.le_of_ble_eq_true rfl, Nat.le_of_ble_eq_true rfl⟩ hH ⟨0, 3, _, _, rfl, rfl, rfl⟩ rfl hl.1 (Nat.le_of_ble_eq_true rfl) dX3_net_6 ⟨Nat.le_of_ble_eq_true rfl, Nat.le_of_ble_eq_true rfl⟩ rfl (fun u H locs hH => ?_)
  have hH : HH G A s (mW G q (va_up f 24 0) a) H locs := hH
  refine lv_if_ne (tgt := 14) hx hb dX3_net_9 (by decide) (fun c_9 => ?_) (fun c_9 => absurd c_9 (by decide))
  refine lv_aload_n hx hb dX3_net_14 rfl (lv_at hl 0 rfl) ?_
  refine rget (C := RX3) (T := TX3) (N := 25) (ref := RX3) F in_X3_net_X3 hH 0 rfl rfl 8 (by decide) (by decide +kernel) (fun _ h9 => h9) (v := .ref (q 8)) rfl dX3_net_15 ?_
  refine lv_iload_n hx hb dX3_net_18 rfl (lv_at hl 1 rfl) ?_
  refine riald F hH 8 (n := 8) (f := a 8) rfl i rfl (by omega) (by decide) dX3_net_19 ?_
  refine lv_ineg hx hb dX3_net_20 ?_
  refine lv_istore_n (lv' := [(2, .int (-(a 8 i))), (0, .ref (q 0)), (1, .int (nI i))]) hx hb dX3_net_21 rfl hl (by decide) rfl (fun ls hl => ?_)
  refine lv_sipush (v := 201) hx hb dX3_net_22 (by decide) ?_
  refine lv_iload_n hx hb dX3_net_25 rfl (lv_at hl 2 rfl) ?_
  refine lv_imul hx hb dX3_net_26 ?_
  refine lv_istore_n (lv' := [(3, .int (201 * (nI i))), (2, .int (-(a 8 i))), (0, .ref (q 0)), (1, .int (nI i))]) hx hb dX3_net_27 rfl hl (by decide) rfl (fun ls hl => ?_)
  have loop : ∀ (n9 : Nat) (k : Nat) (hc9 : k + n9 = 201)  (H : Heap) (locs : List Loc) (ls : Array Slot), HH G A s (mW G q (va_up f 24 0) a) H locs → lv_has ls 4 [(3, .int (nI (201 * i + k))), (2, .int (netN a i k)), (0, .ref (q 0)), (1, .int (nI i))] → W p l e ({ frames := 1, cells := 0, slots := 0, locals := 21 } : Room) s m [.ref (q 0), .int (nI i)].toArray below meth c H locs 0 0 (EnI G A below s [.ref (q 0), .int (nI i)].toArray ({ frames := 1, cells := 0, slots := 0, locals := 21 } : Room) (fun u => mW G q (va_up f 24 0) a) (netN a i 201)) (F0 m 28 ls []) := by
    intro n9
    induction n9 with
    | zero =>
      intro k hc9  H locs ls hH hl
      refine lv_iload_n hx hb dX3_net_28 rfl (lv_at hl 0 rfl) ?_
      refine lv_sipush (v := 201) hx hb dX3_net_29 (by decide) ?_
      refine lv_iload_n hx hb dX3_net_32 rfl (lv_at hl 3 rfl) ?_
      refine lv_imul hx hb dX3_net_33 ?_
      refine lv_sipush (v := 201) hx hb dX3_net_34 (by decide) ?_
      refine lv_iadd hx hb dX3_net_37 ?_
      refine lv_icmp_ge (tgt := 63) hx hb dX3_net_38 (by decide) (fun c_38 => ?_) (fun c_38 => absurd (by rw [show (201 : Int32) * nI i + 201 = nI (201 * i + 201) from ix201 i 201]; exact nI_le (by omega) (by omega)) c_38)
      refine lv_iload_n hx hb dX3_net_63 rfl (lv_at hl 1 rfl) ?_
      exact retI F hr rfl (fun _ => 0) hH (by rw [show k = 201 by omega]) (Nat.le_of_ble_eq_true rfl) (Nat.le_of_ble_eq_true rfl) dX3_net_64
    | succ n9 ih =>
      intro k hc9  H locs ls hH hl
      refine lv_iload_n hx hb dX3_net_28 rfl (lv_at hl 0 rfl) ?_
      refine lv_sipush (v := 201) hx hb dX3_net_29 (by decide) ?_
      refine lv_iload_n hx hb dX3_net_32 rfl (lv_at hl 3 rfl) ?_
      refine lv_imul hx hb dX3_net_33 ?_
      refine lv_sipush (v := 201) hx hb dX3_net_34 (by decide) ?_
      refine lv_iadd hx hb dX3_net_37 ?_
      refine lv_icmp_ge (tgt := 63) hx hb dX3_net_38 (by decide) (fun c_38 => absurd c_38 (by rw [show (201 : Int32) * nI i + 201 = nI (201 * i + 201) from ix201 i 201]; exact nI_ge (by omega) (by omega))) (fun c_38 => ?_)
      refine lv_iload_n hx hb dX3_net_41 rfl (lv_at hl 1 rfl) ?_
      refine lv_aload_n hx hb dX3_net_42 rfl (lv_at hl 2 rfl) ?_
      refine rget (C := RX3) (T := TX3) (N := 25) (ref := RX3) F in_X3_net_X3 hH 0 rfl rfl 18 (by decide) (by decide +kernel) (fun _ h9 => h9) (v := .ref (q 18)) rfl dX3_net_43 ?_
      refine lv_iload_n hx hb dX3_net_46 rfl (lv_at hl 0 rfl) ?_
      refine riald F hH 14 (n := 1608) (f := a 18) rfl (201 * i + k) rfl (by omega) (by decide) dX3_net_47 ?_
      refine lv_aload_n hx hb dX3_net_48 rfl (lv_at hl 2 rfl) ?_
      refine rget (C := RX3) (T := TX3) (N := 25) (ref := RX3) F in_X3_net_X3 hH 0 rfl rfl 19 (by decide) (by decide +kernel) (fun _ h9 => h9) (v := .ref (q 19)) rfl dX3_net_49 ?_
      refine lv_iload_n hx hb dX3_net_52 rfl (lv_at hl 0 rfl) ?_
      refine riald F hH 15 (n := 1608) (f := a 19) rfl (201 * i + k) rfl (by omega) (by decide) dX3_net_53 ?_
      refine lv_iadd hx hb dX3_net_54 ?_
      refine lv_iadd hx hb dX3_net_55 ?_
      refine lv_istore_n (lv' := [(2, .int ((netN a i k) + ((a 18 (201 * i + k)) + (a 19 (201 * i + k))))), (3, .int (nI (201 * i + k))), (0, .ref (q 0)), (1, .int (nI i))]) hx hb dX3_net_56 rfl hl (by decide) rfl (fun ls hl => ?_)
      refine lv_iinc (v := (nI ((201 * i + k) + 1))) (lv' := [(3, .int (nI ((201 * i + k) + 1))), (2, .int ((netN a i k) + ((a 18 (201 * i + k)) + (a 19 (201 * i + k))))), (0, .ref (q 0)), (1, .int (nI i))]) hx hb dX3_net_57 hl (k := 1) rfl (nI_1 (201 * i + k)) (by decide) rfl (fun ls hl => ?_)
      refine lv_goto (tgt := 28) hx hb dX3_net_60 (by decide) ?_
      exact ih (k + 1) (by omega) _ _ _ hH (lv_sub hl [0, 1, 2, 3] (rfl))
  exact loop 201 0 (by omega) _ _ _ hH (lv_sub hl [0, 1, 2, 3] (by rw [ixm201]; rfl))

set_option maxHeartbeats 4000000 in
set_option maxRecDepth 100000 in
theorem c_X3_net_0 (l : Launch) (G : Gx) (q : Nat → Nat) (f : Nat → Int32) (a : Nat → Nat → Int32) (n : Nat) (e0 : f 0 = nI n) (hn : n ≤ 8) (v : Int32) (h : v < 0 ∨ nI n ≤ v) : MI l yX3_net wsX3_net ({ frames := 1, cells := 0, slots := 0, locals := 21 } : Room) [.ref (q 0), .int v] G (mW G q f a) (fun u => mW G q (va_up f 24 1) a) 0 := by
  refine ofMI (cc := cX3_net) (maxL := 4) (ret := (some .int)) (by decide) rfl (Nat.le_of_ble_eq_true rfl) (fun p e s m below meth c A ls F hr hnm hH hl => ?_)
  have F : Fx G p s m _ meth c cX3_net 4 wsX3_net RX3 A := F
  have hx := F.1.1
  have hb := F.1.2.1
  have hl : lv_has ls 4 [(0, .ref (q 0)), (1, .int v)] := hl
  refine lv_aload_n hx hb dX3_net_0 rfl (lv_at hl 0 rfl) ?_
  refine lv_aload_n hx hb dX3_net_1 rfl (lv_at hl 0 rfl) ?_
  refine lv_iload_n hx hb dX3_net_2 rfl (lv_at hl 1 rfl) ?_
  refine callVI0 (rest := [.ref (q 0)]) F (c_X3_isWorker_0 l G q f a n e0 hn v h) gX3_net_X3_isWorker rfl hdX3_isWorker ⟨Nat.le_of_ble_eq_true rfl, Nat.le_of_ble_eq_true rfl⟩ hH ⟨0, 3, _, _, rfl, rfl, rfl⟩ rfl hl.1 (Nat.le_of_ble_eq_true rfl) dX3_net_3 ⟨Nat.le_of_ble_eq_true rfl, Nat.le_of_ble_eq_true rfl⟩ rfl (fun u H locs hH => ?_)
  have hH : HH G A s (mW G q f a) H locs := hH
  refine callVI0 (rest := []) F (c_X3_asks_0 l G q f a) gX3_net_X3_asks rfl hdX3_asks ⟨Nat.le_of_ble_eq_true rfl, Nat.le_of_ble_eq_true rfl⟩ hH ⟨0, 3, _, _, rfl, rfl, rfl⟩ rfl hl.1 (Nat.le_of_ble_eq_true rfl) dX3_net_6 ⟨Nat.le_of_ble_eq_true rfl, Nat.le_of_ble_eq_true rfl⟩ rfl (fun u H locs hH => ?_)
  have hH : HH G A s (mW G q (va_up f 24 1) a) H locs := hH
  refine lv_if_ne (tgt := 14) hx hb dX3_net_9 (by decide) (fun c_9 => absurd rfl c_9) (fun c_9 => ?_)
  refine lv_iconst (v := 0) hx hb dX3_net_12 (by decide) ?_
  exact retI F hr rfl (fun _ => 0) hH rfl (Nat.le_of_ble_eq_true rfl) (Nat.le_of_ble_eq_true rfl) dX3_net_13

set_option maxHeartbeats 4000000 in
set_option maxRecDepth 100000 in
theorem c_X3_check_1 (l : Launch) (G : Gx) (q : Nat → Nat) (f : Nat → Int32) (a : Nat → Nat → Int32) (n : Nat) (e0 : f 0 = nI n) (hn : n ≤ 8) (t : Nat) (e16 : f 16 = nI t) (ht : t ≤ 201) (j : Nat) (hj : j < t) (hk : a 23 j = 0) : MI l yX3_check wsX3_check ({ frames := 1, cells := 0, slots := 0, locals := 21 } : Room) [.ref (q 0), .int (nI j)] G (mW G q f a) (fun u => mW G q (va_up (va_up f 24 0) 9 (chkF a j (f 9) n)) (va_up (va_up a 23 (upd (a 23) j 1)) 8 (chkO a j n))) (chkN a j n) := by
  refine ofMI (cc := cX3_check) (maxL := 7) (ret := (some .int)) (by decide) rfl (Nat.le_of_ble_eq_true rfl) (fun p e s m below meth c A ls F hr hnm hH hl => ?_)
  have F : Fx G p s m _ meth c cX3_check 7 wsX3_check RX3 A := F
  have hx := F.1.1
  have hb := F.1.2.1
  have hl : lv_has ls 7 [(0, .ref (q 0)), (1, .int (nI j))] := hl
  refine lv_aload_n hx hb dX3_check_0 rfl (lv_at hl 0 rfl) ?_
  refine lv_aload_n hx hb dX3_check_1 rfl (lv_at hl 0 rfl) ?_
  refine lv_iload_n hx hb dX3_check_2 rfl (lv_at hl 1 rfl) ?_
  refine callVI0 (rest := [.ref (q 0)]) F (c_X3_isPast_1 l G q f a t e16 ht j hj) gX3_check_X3_isPast rfl hdX3_isPast ⟨Nat.le_of_ble_eq_true rfl, Nat.le_of_ble_eq_true rfl⟩ hH ⟨0, 3, _, _, rfl, rfl, rfl⟩ rfl hl.1 (Nat.le_of_ble_eq_true rfl) dX3_check_3 ⟨Nat.le_of_ble_eq_true rfl, Nat.le_of_ble_eq_true rfl⟩ rfl (fun u H locs hH => ?_)
  have hH : HH G A s (mW G q f a) H locs := hH
  refine callVI0 (rest := []) F (c_X3_asks_1 l G q f a) gX3_check_X3_asks rfl hdX3_asks ⟨Nat.le_of_ble_eq_true rfl, Nat.le_of_ble_eq_true rfl⟩ hH ⟨0, 3, _, _, rfl, rfl, rfl⟩ rfl hl.1 (Nat.le_of_ble_eq_true rfl) dX3_check_6 ⟨Nat.le_of_ble_eq_true rfl, Nat.le_of_ble_eq_true rfl⟩ rfl (fun u H locs hH => ?_)
  have hH : HH G A s (mW G q (va_up f 24 0) a) H locs := hH
  refine lv_if_ne (tgt := 14) hx hb dX3_check_9 (by decide) (fun c_9 => ?_) (fun c_9 => absurd c_9 (by decide))
  refine lv_aload_n hx hb dX3_check_14 rfl (lv_at hl 0 rfl) ?_
  refine rget (C := RX3) (T := TX3) (N := 25) (ref := RX3) F in_X3_check_X3 hH 0 rfl rfl 23 (by decide) (by decide +kernel) (fun _ h9 => h9) (v := .ref (q 23)) rfl dX3_check_15 ?_
  refine lv_iload_n hx hb dX3_check_18 rfl (lv_at hl 1 rfl) ?_
  refine rzald F hH 19 (n := 201) (f := a 23) rfl j rfl (by omega) (by decide) dX3_check_19 ?_
  refine lv_if_eq (tgt := 29) hx hb dX3_check_20 (by decide) (fun c_20 => ?_) (fun c_20 => absurd hk c_20)
  refine lv_aload_n hx hb dX3_check_29 rfl (lv_at hl 0 rfl) ?_
  refine rget (C := RX3) (T := TX3) (N := 25) (ref := RX3) F in_X3_check_X3 hH 0 rfl rfl 23 (by decide) (by decide +kernel) (fun _ h9 => h9) (v := .ref (q 23)) rfl dX3_check_30 ?_
  refine lv_iload_n hx hb dX3_check_33 rfl (lv_at hl 1 rfl) ?_
  refine lv_iconst (v := 1) hx hb dX3_check_34 (by decide) ?_
  refine rzast F hH 19 (n := 201) (f := a 23) rfl j rfl (by omega) (by decide) rfl dX3_check_35 (fun H locs hH => ?_)
  have hH : HH G A s (mW G q (va_up f 24 0) (va_up a 23 (upd (a 23) j 1))) H locs := hH
  refine lv_iconst (v := 0) hx hb dX3_check_36 (by decide) ?_
  refine lv_istore_n (lv' := [(2, .int 0), (0, .ref (q 0)), (1, .int (nI j))]) hx hb dX3_check_37 rfl hl (by decide) rfl (fun ls hl => ?_)
  refine lv_iconst (v := 0) hx hb dX3_check_38 (by decide) ?_
  refine lv_istore_n (lv' := [(3, .int 0), (2, .int 0), (0, .ref (q 0)), (1, .int (nI j))]) hx hb dX3_check_39 rfl hl (by decide) rfl (fun ls hl => ?_)
  have loop : ∀ (n9 : Nat) (i : Nat) (hc9 : i + n9 = n)  (H : Heap) (locs : List Loc) (ls : Array Slot), HH G A s (mW G q (va_up (va_up f 24 0) 9 (chkF a j (f 9) i)) (va_up (va_up a 23 (upd (a 23) j 1)) 8 (chkO a j i))) H locs → lv_has ls 7 [(3, .int (nI i)), (2, .int (chkN a j i)), (0, .ref (q 0)), (1, .int (nI j))] → W p l e ({ frames := 1, cells := 0, slots := 0, locals := 21 } : Room) s m [.ref (q 0), .int (nI j)].toArray below meth c H locs 0 0 (EnI G A below s [.ref (q 0), .int (nI j)].toArray ({ frames := 1, cells := 0, slots := 0, locals := 21 } : Room) (fun u => mW G q (va_up (va_up f 24 0) 9 (chkF a j (f 9) n)) (va_up (va_up a 23 (upd (a 23) j 1)) 8 (chkO a j n))) (chkN a j n)) (F0 m 40 ls []) := by
    intro n9
    induction n9 with
    | zero =>
      intro i hc9  H locs ls hH hl
      refine lv_iload_n hx hb dX3_check_40 rfl (lv_at hl 0 rfl) ?_
      refine lv_aload_n hx hb dX3_check_41 rfl (lv_at hl 2 rfl) ?_
      refine rget (C := RX3) (T := TX3) (N := 25) (ref := RX3) F in_X3_check_X3 hH 0 rfl rfl 0 (by decide) (by decide +kernel) (fun _ h9 => h9) (v := .int (f 0)) rfl dX3_check_42 ?_
      refine lv_icmp_ge (tgt := 181) hx hb dX3_check_45 (by decide) (fun c_45 => ?_) (fun c_45 => absurd (by rw [e0]; exact nI_le (by omega) (by omega)) c_45)
      refine lv_iload_n hx hb dX3_check_181 rfl (lv_at hl 1 rfl) ?_
      exact retI F hr rfl (fun _ => 0) (by rw [show n = i by omega]; exact hH) (by rw [show i = n by omega]) (Nat.le_of_ble_eq_true rfl) (Nat.le_of_ble_eq_true rfl) dX3_check_182
    | succ n9 ih =>
      intro i hc9  H locs ls hH hl
      refine lv_iload_n hx hb dX3_check_40 rfl (lv_at hl 0 rfl) ?_
      refine lv_aload_n hx hb dX3_check_41 rfl (lv_at hl 2 rfl) ?_
      refine rget (C := RX3) (T := TX3) (N := 25) (ref := RX3) F in_X3_check_X3 hH 0 rfl rfl 0 (by decide) (by decide +kernel) (fun _ h9 => h9) (v := .int (f 0)) rfl dX3_check_42 ?_
      refine lv_icmp_ge (tgt := 181) hx hb dX3_check_45 (by decide) (fun c_45 => absurd c_45 (by rw [e0]; exact nI_ge (by omega) (by omega))) (fun c_45 => ?_)
      refine lv_sipush (v := 201) hx hb dX3_check_48 (by decide) ?_
      refine lv_iload_n hx hb dX3_check_51 rfl (lv_at hl 0 rfl) ?_
      refine lv_imul hx hb dX3_check_52 ?_
      refine lv_iload_n hx hb dX3_check_53 rfl (lv_at hl 3 rfl) ?_
      refine lv_iadd hx hb dX3_check_54 ?_
      refine lv_istore (lv' := [(4, .int ((201 * (nI i)) + (nI j))), (3, .int (nI i)), (2, .int (chkN a j i)), (0, .ref (q 0)), (1, .int (nI j))]) hx hb dX3_check_55 hl (by decide) rfl (fun ls hl => ?_)
      refine lv_aload_n hx hb dX3_check_57 rfl (lv_at hl 3 rfl) ?_
      refine rget (C := RX3) (T := TX3) (N := 25) (ref := RX3) F in_X3_check_X3 hH 0 rfl rfl 19 (by decide) (by decide +kernel) (fun _ h9 => h9) (v := .ref (q 19)) rfl dX3_check_58 ?_
      refine lv_iload hx hb dX3_check_61 (lv_at hl 0 rfl) ?_
      refine riald F hH 15 (n := 1608) (f := a 19) rfl (201 * i + j) (ix201 i j) (by omega) (by decide) dX3_check_63 ?_
      refine lv_istore (lv' := [(5, .int (a 19 (201 * i + j))), (4, .int ((201 * (nI i)) + (nI j))), (3, .int (nI i)), (2, .int (chkN a j i)), (0, .ref (q 0)), (1, .int (nI j))]) hx hb dX3_check_64 hl (by decide) rfl (fun ls hl => ?_)
      refine lv_aload_n hx hb dX3_check_66 rfl (lv_at hl 4 rfl) ?_
      refine rget (C := RX3) (T := TX3) (N := 25) (ref := RX3) F in_X3_check_X3 hH 0 rfl rfl 21 (by decide) (by decide +kernel) (fun _ h9 => h9) (v := .ref (q 21)) rfl dX3_check_67 ?_
      refine lv_iload hx hb dX3_check_70 (lv_at hl 1 rfl) ?_
      refine riald F hH 17 (n := 1608) (f := a 21) rfl (201 * i + j) (ix201 i j) (by omega) (by decide) dX3_check_72 ?_
      refine lv_iconst (v := (-1)) hx hb dX3_check_73 (by decide) ?_
      refine lv_icmp_eq (tgt := 175) hx hb dX3_check_74 (by decide) (fun c_74 => ?_) (fun c_74 => ?_)
      · have e9 : chkB a (201 * i + j) = 0 := by unfold chkB; rw [if_pos c_74]
        refine lv_iinc (v := (nI (i + 1))) (lv' := [(3, .int (nI (i + 1))), (5, .int (a 19 (201 * i + j))), (4, .int ((201 * (nI i)) + (nI j))), (2, .int (chkN a j i)), (0, .ref (q 0)), (1, .int (nI j))]) hx hb dX3_check_175 hl (k := 2) rfl (nI_1 i) (by decide) rfl (fun ls hl => ?_)
        refine lv_goto (tgt := 40) hx hb dX3_check_178 (by decide) ?_
        exact ih (i + 1) (by omega) _ _ _ (by rw [(chk_0 (f9 := f 9) e9).1, (chk_0 (f9 := f 9) e9).2.1]; exact hH) (lv_sub hl [0, 3, 4, 5] (by rw [(chk_0 (f9 := f 9) e9).2.2]; rfl))
      · refine lv_aload_n hx hb dX3_check_77 rfl (lv_at hl 4 rfl) ?_
        refine rget (C := RX3) (T := TX3) (N := 25) (ref := RX3) F in_X3_check_X3 hH 0 rfl rfl 21 (by decide) (by decide +kernel) (fun _ h9 => h9) (v := .ref (q 21)) rfl dX3_check_78 ?_
        refine lv_iload hx hb dX3_check_81 (lv_at hl 1 rfl) ?_
        refine riald F hH 17 (n := 1608) (f := a 21) rfl (201 * i + j) (ix201 i j) (by omega) (by decide) dX3_check_83 ?_
        refine lv_bipush (v := 40) hx hb dX3_check_84 (by decide) ?_
        refine lv_aload_n hx hb dX3_check_86 rfl (lv_at hl 4 rfl) ?_
        refine rget (C := RX3) (T := TX3) (N := 25) (ref := RX3) F in_X3_check_X3 hH 0 rfl rfl 20 (by decide) (by decide +kernel) (fun _ h9 => h9) (v := .ref (q 20)) rfl dX3_check_87 ?_
        refine lv_iload hx hb dX3_check_90 (lv_at hl 1 rfl) ?_
        refine riald F hH 16 (n := 1608) (f := a 20) rfl (201 * i + j) (ix201 i j) (by omega) (by decide) dX3_check_92 ?_
        refine lv_isub hx hb dX3_check_93 ?_
        refine lv_iconst (v := 2) hx hb dX3_check_94 (by decide) ?_
        refine lv_iadd hx hb dX3_check_95 ?_
        refine lv_icmp_le (tgt := 175) hx hb dX3_check_96 (by decide) (fun c_96 => ?_) (fun c_96 => ?_)
        · have e9 : chkB a (201 * i + j) = 0 := by unfold chkB; rw [if_neg c_74, if_pos c_96]
          refine lv_iinc (v := (nI (i + 1))) (lv' := [(3, .int (nI (i + 1))), (5, .int (a 19 (201 * i + j))), (4, .int ((201 * (nI i)) + (nI j))), (2, .int (chkN a j i)), (0, .ref (q 0)), (1, .int (nI j))]) hx hb dX3_check_175 hl (k := 2) rfl (nI_1 i) (by decide) rfl (fun ls hl => ?_)
          refine lv_goto (tgt := 40) hx hb dX3_check_178 (by decide) ?_
          exact ih (i + 1) (by omega) _ _ _ (by rw [(chk_0 (f9 := f 9) e9).1, (chk_0 (f9 := f 9) e9).2.1]; exact hH) (lv_sub hl [0, 3, 4, 5] (by rw [(chk_0 (f9 := f 9) e9).2.2]; rfl))
        · refine lv_iload hx hb dX3_check_99 (lv_at hl 0 rfl) ?_
          refine lv_if_le (tgt := 175) hx hb dX3_check_101 (by decide) (fun c_101 => ?_) (fun c_101 => ?_)
          · have e9 : chkB a (201 * i + j) = 0 := by unfold chkB; rw [if_neg c_74, if_neg c_96, if_pos c_101]
            refine lv_iinc (v := (nI (i + 1))) (lv' := [(3, .int (nI (i + 1))), (5, .int (a 19 (201 * i + j))), (4, .int ((201 * (nI i)) + (nI j))), (2, .int (chkN a j i)), (0, .ref (q 0)), (1, .int (nI j))]) hx hb dX3_check_175 hl (k := 2) rfl (nI_1 i) (by decide) rfl (fun ls hl => ?_)
            refine lv_goto (tgt := 40) hx hb dX3_check_178 (by decide) ?_
            exact ih (i + 1) (by omega) _ _ _ (by rw [(chk_0 (f9 := f 9) e9).1, (chk_0 (f9 := f 9) e9).2.1]; exact hH) (lv_sub hl [0, 3, 4, 5] (by rw [(chk_0 (f9 := f 9) e9).2.2]; rfl))
          · refine lv_aload_n hx hb dX3_check_104 rfl (lv_at hl 4 rfl) ?_
            refine rget (C := RX3) (T := TX3) (N := 25) (ref := RX3) F in_X3_check_X3 hH 0 rfl rfl 22 (by decide) (by decide +kernel) (fun _ h9 => h9) (v := .ref (q 22)) rfl dX3_check_105 ?_
            refine lv_iload hx hb dX3_check_108 (lv_at hl 1 rfl) ?_
            refine rzald F hH 18 (n := 1608) (f := a 22) rfl (201 * i + j) (ix201 i j) (by omega) (by decide) dX3_check_110 ?_
            refine lv_if_eq (tgt := 118) hx hb dX3_check_111 (by decide) (fun c_111 => ?_) (fun c_111 => ?_)
            · refine lv_iload hx hb dX3_check_118 (lv_at hl 0 rfl) ?_
              refine lv_iconst (v := 2) hx hb dX3_check_120 (by decide) ?_
              refine lv_idiv hx hb dX3_check_121 (by decide) ?_
              refine lv_istore (lv' := [(6, .int ((a 19 (201 * i + j)) / 2)), (5, .int (a 19 (201 * i + j))), (4, .int ((201 * (nI i)) + (nI j))), (3, .int (nI i)), (2, .int (chkN a j i)), (0, .ref (q 0)), (1, .int (nI j))]) hx hb dX3_check_122 hl (by decide) rfl (fun ls hl => ?_)
              refine lv_aload_n hx hb dX3_check_124 rfl (lv_at hl 5 rfl) ?_
              refine rget (C := RX3) (T := TX3) (N := 25) (ref := RX3) F in_X3_check_X3 hH 0 rfl rfl 8 (by decide) (by decide +kernel) (fun _ h9 => h9) (v := .ref (q 8)) rfl dX3_check_125 ?_
              refine lv_iload_n hx hb dX3_check_128 rfl (lv_at hl 3 rfl) ?_
              refine lv_dup2_11 hx hb dX3_check_129 rfl rfl ?_
              refine riald F hH 8 (n := 8) (f := chkO a j i) rfl i rfl (by omega) (by decide) dX3_check_130 ?_
              refine lv_iload hx hb dX3_check_131 (lv_at hl 0 rfl) ?_
              refine lv_iadd hx hb dX3_check_133 ?_
              refine riast F hH 8 (n := 8) (f := chkO a j i) rfl i rfl (by omega) (by decide) dX3_check_134 (fun H locs hH => ?_)
              have hH : HH G A s (mW G q (va_up (va_up f 24 0) 9 (chkF a j (f 9) i)) (va_up (va_up a 23 (upd (a 23) j 1)) 8 (upd (chkO a j i) i ((chkO a j i i) + ((a 19 (201 * i + j)) / 2))))) H locs := hH
              refine lv_aload_n hx hb dX3_check_135 rfl (lv_at hl 5 rfl) ?_
              refine lv_dup hx hb dX3_check_136 rfl ?_
              refine rget (C := RX3) (T := TX3) (N := 25) (ref := RX3) F in_X3_check_X3 hH 0 rfl rfl 9 (by decide) (by decide +kernel) (fun _ h9 => h9) (v := .int (chkF a j (f 9) i)) rfl dX3_check_137 ?_
              refine lv_iload hx hb dX3_check_140 (lv_at hl 1 rfl) ?_
              refine lv_iload hx hb dX3_check_142 (lv_at hl 0 rfl) ?_
              refine lv_isub hx hb dX3_check_144 ?_
              refine lv_aload_n hx hb dX3_check_145 rfl (lv_at hl 5 rfl) ?_
              refine rget (C := RX3) (T := TX3) (N := 25) (ref := RX3) F in_X3_check_X3 hH 0 rfl rfl 22 (by decide) (by decide +kernel) (fun _ h9 => h9) (v := .ref (q 22)) rfl dX3_check_146 ?_
              refine lv_iload hx hb dX3_check_149 (lv_at hl 2 rfl) ?_
              refine rzald F hH 18 (n := 1608) (f := a 22) rfl (201 * i + j) (ix201 i j) (by omega) (by decide) dX3_check_151 ?_
              refine lv_if_eq (tgt := 166) hx hb dX3_check_152 (by decide) (fun c_152 => ?_) (fun c_152 => absurd c_111 c_152)
              have e9 : chkB a (201 * i + j) = 1 := by unfold chkB; rw [if_neg c_74, if_neg c_96, if_neg c_101]
              refine lv_iconst (v := 0) hx hb dX3_check_166 (by decide) ?_
              refine lv_iadd hx hb dX3_check_167 ?_
              refine lv_iadd hx hb dX3_check_168 ?_
              refine rput (C := RX3) (T := TX3) (N := 25) (ref := RX3) F in_X3_check_X3 tyX3 tyX3_ok nmX3 hH 0 rfl rfl 9 (by decide) (by decide +kernel) (fun _ h9 => h9) rfl (v := .int ((chkF a j (f 9) i) + (((a 19 (201 * i + j)) - ((a 19 (201 * i + j)) / 2)) + 0))) rfl rfl (Nat.le_of_ble_eq_true rfl) dX3_check_169 (fun H locs hH => ?_)
              have hH : HH G A s (mW G q (va_up (va_up f 24 0) 9 ((chkF a j (f 9) i) + (((a 19 (201 * i + j)) - ((a 19 (201 * i + j)) / 2)) + 0))) (va_up (va_up a 23 (upd (a 23) j 1)) 8 (upd (chkO a j i) i ((chkO a j i i) + ((a 19 (201 * i + j)) / 2))))) H locs := hH
              refine lv_iinc (v := ((chkN a j i) + 1)) (lv' := [(2, .int ((chkN a j i) + 1)), (6, .int ((a 19 (201 * i + j)) / 2)), (5, .int (a 19 (201 * i + j))), (4, .int ((201 * (nI i)) + (nI j))), (3, .int (nI i)), (0, .ref (q 0)), (1, .int (nI j))]) hx hb dX3_check_172 hl (k := 4) rfl rfl (by decide) rfl (fun ls hl => ?_)
              refine lv_iinc (v := (nI (i + 1))) (lv' := [(3, .int (nI (i + 1))), (2, .int ((chkN a j i) + 1)), (6, .int ((a 19 (201 * i + j)) / 2)), (5, .int (a 19 (201 * i + j))), (4, .int ((201 * (nI i)) + (nI j))), (0, .ref (q 0)), (1, .int (nI j))]) hx hb dX3_check_175 hl (k := 4) rfl (nI_1 i) (by decide) rfl (fun ls hl => ?_)
              refine lv_goto (tgt := 40) hx hb dX3_check_178 (by decide) ?_
              exact ih (i + 1) (by omega) _ _ _ (by rw [(chk_1 (f9 := f 9) e9).1, (chk_1 (f9 := f 9) e9).2.1]; unfold halfM extraM; rw [if_pos c_111, if_pos c_111]; exact hH) (lv_sub hl [0, 1, 5, 6] (by rw [(chk_1 (f9 := f 9) e9).2.2]; rfl))
            · refine lv_iconst (v := 0) hx hb dX3_check_114 (by decide) ?_
              refine lv_goto (tgt := 122) hx hb dX3_check_115 (by decide) ?_
              refine lv_istore (lv' := [(6, .int 0), (5, .int (a 19 (201 * i + j))), (4, .int ((201 * (nI i)) + (nI j))), (3, .int (nI i)), (2, .int (chkN a j i)), (0, .ref (q 0)), (1, .int (nI j))]) hx hb dX3_check_122 hl (by decide) rfl (fun ls hl => ?_)
              refine lv_aload_n hx hb dX3_check_124 rfl (lv_at hl 5 rfl) ?_
              refine rget (C := RX3) (T := TX3) (N := 25) (ref := RX3) F in_X3_check_X3 hH 0 rfl rfl 8 (by decide) (by decide +kernel) (fun _ h9 => h9) (v := .ref (q 8)) rfl dX3_check_125 ?_
              refine lv_iload_n hx hb dX3_check_128 rfl (lv_at hl 3 rfl) ?_
              refine lv_dup2_11 hx hb dX3_check_129 rfl rfl ?_
              refine riald F hH 8 (n := 8) (f := chkO a j i) rfl i rfl (by omega) (by decide) dX3_check_130 ?_
              refine lv_iload hx hb dX3_check_131 (lv_at hl 0 rfl) ?_
              refine lv_iadd hx hb dX3_check_133 ?_
              refine riast F hH 8 (n := 8) (f := chkO a j i) rfl i rfl (by omega) (by decide) dX3_check_134 (fun H locs hH => ?_)
              have hH : HH G A s (mW G q (va_up (va_up f 24 0) 9 (chkF a j (f 9) i)) (va_up (va_up a 23 (upd (a 23) j 1)) 8 (upd (chkO a j i) i ((chkO a j i i) + 0)))) H locs := hH
              refine lv_aload_n hx hb dX3_check_135 rfl (lv_at hl 5 rfl) ?_
              refine lv_dup hx hb dX3_check_136 rfl ?_
              refine rget (C := RX3) (T := TX3) (N := 25) (ref := RX3) F in_X3_check_X3 hH 0 rfl rfl 9 (by decide) (by decide +kernel) (fun _ h9 => h9) (v := .int (chkF a j (f 9) i)) rfl dX3_check_137 ?_
              refine lv_iload hx hb dX3_check_140 (lv_at hl 1 rfl) ?_
              refine lv_iload hx hb dX3_check_142 (lv_at hl 0 rfl) ?_
              refine lv_isub hx hb dX3_check_144 ?_
              refine lv_aload_n hx hb dX3_check_145 rfl (lv_at hl 5 rfl) ?_
              refine rget (C := RX3) (T := TX3) (N := 25) (ref := RX3) F in_X3_check_X3 hH 0 rfl rfl 22 (by decide) (by decide +kernel) (fun _ h9 => h9) (v := .ref (q 22)) rfl dX3_check_146 ?_
              refine lv_iload hx hb dX3_check_149 (lv_at hl 2 rfl) ?_
              refine rzald F hH 18 (n := 1608) (f := a 22) rfl (201 * i + j) (ix201 i j) (by omega) (by decide) dX3_check_151 ?_
              refine lv_if_eq (tgt := 166) hx hb dX3_check_152 (by decide) (fun c_152 => absurd c_152 c_111) (fun c_152 => ?_)
              have e9 : chkB a (201 * i + j) = 1 := by unfold chkB; rw [if_neg c_74, if_neg c_96, if_neg c_101]
              refine lv_iload hx hb dX3_check_155 (lv_at hl 1 rfl) ?_
              refine lv_bipush (v := 10) hx hb dX3_check_157 (by decide) ?_
              refine lv_imul hx hb dX3_check_159 ?_
              refine lv_bipush (v := 100) hx hb dX3_check_160 (by decide) ?_
              refine lv_idiv hx hb dX3_check_162 (by decide) ?_
              refine lv_goto (tgt := 167) hx hb dX3_check_163 (by decide) ?_
              refine lv_iadd hx hb dX3_check_167 ?_
              refine lv_iadd hx hb dX3_check_168 ?_
              refine rput (C := RX3) (T := TX3) (N := 25) (ref := RX3) F in_X3_check_X3 tyX3 tyX3_ok nmX3 hH 0 rfl rfl 9 (by decide) (by decide +kernel) (fun _ h9 => h9) rfl (v := .int ((chkF a j (f 9) i) + (((a 19 (201 * i + j)) - 0) + (((a 19 (201 * i + j)) * 10) / 100)))) rfl rfl (Nat.le_of_ble_eq_true rfl) dX3_check_169 (fun H locs hH => ?_)
              have hH : HH G A s (mW G q (va_up (va_up f 24 0) 9 ((chkF a j (f 9) i) + (((a 19 (201 * i + j)) - 0) + (((a 19 (201 * i + j)) * 10) / 100)))) (va_up (va_up a 23 (upd (a 23) j 1)) 8 (upd (chkO a j i) i ((chkO a j i i) + 0)))) H locs := hH
              refine lv_iinc (v := ((chkN a j i) + 1)) (lv' := [(2, .int ((chkN a j i) + 1)), (6, .int 0), (5, .int (a 19 (201 * i + j))), (4, .int ((201 * (nI i)) + (nI j))), (3, .int (nI i)), (0, .ref (q 0)), (1, .int (nI j))]) hx hb dX3_check_172 hl (k := 4) rfl rfl (by decide) rfl (fun ls hl => ?_)
              refine lv_iinc (v := (nI (i + 1))) (lv' := [(3, .int (nI (i + 1))), (2, .int ((chkN a j i) + 1)), (6, .int 0), (5, .int (a 19 (201 * i + j))), (4, .int ((201 * (nI i)) + (nI j))), (0, .ref (q 0)), (1, .int (nI j))]) hx hb dX3_check_175 hl (k := 4) rfl (nI_1 i) (by decide) rfl (fun ls hl => ?_)
              refine lv_goto (tgt := 40) hx hb dX3_check_178 (by decide) ?_
              exact ih (i + 1) (by omega) _ _ _ (by rw [(chk_1 (f9 := f 9) e9).1, (chk_1 (f9 := f 9) e9).2.1]; unfold halfM extraM; rw [if_neg c_111, if_neg c_111]; exact hH) (lv_sub hl [0, 1, 5, 6] (by rw [(chk_1 (f9 := f 9) e9).2.2]; rfl))
  exact loop n 0 (by omega) _ _ _ hH (lv_sub hl [0, 1, 2, 3] (rfl))

set_option maxHeartbeats 4000000 in
set_option maxRecDepth 100000 in
theorem c_X3_check_3 (l : Launch) (G : Gx) (q : Nat → Nat) (f : Nat → Int32) (a : Nat → Nat → Int32) (n : Nat) (e0 : f 0 = nI n) (hn : n ≤ 8) (t : Nat) (e16 : f 16 = nI t) (ht : t ≤ 201) (j : Nat) (hj : j < t) (hk : ¬ a 23 j = 0) : MI l yX3_check wsX3_check ({ frames := 1, cells := 0, slots := 0, locals := 21 } : Room) [.ref (q 0), .int (nI j)] G (mW G q f a) (fun u => mW G q (va_up f 24 2) a) 0 := by
  refine ofMI (cc := cX3_check) (maxL := 7) (ret := (some .int)) (by decide) rfl (Nat.le_of_ble_eq_true rfl) (fun p e s m below meth c A ls F hr hnm hH hl => ?_)
  have F : Fx G p s m _ meth c cX3_check 7 wsX3_check RX3 A := F
  have hx := F.1.1
  have hb := F.1.2.1
  have hl : lv_has ls 7 [(0, .ref (q 0)), (1, .int (nI j))] := hl
  refine lv_aload_n hx hb dX3_check_0 rfl (lv_at hl 0 rfl) ?_
  refine lv_aload_n hx hb dX3_check_1 rfl (lv_at hl 0 rfl) ?_
  refine lv_iload_n hx hb dX3_check_2 rfl (lv_at hl 1 rfl) ?_
  refine callVI0 (rest := [.ref (q 0)]) F (c_X3_isPast_1 l G q f a t e16 ht j hj) gX3_check_X3_isPast rfl hdX3_isPast ⟨Nat.le_of_ble_eq_true rfl, Nat.le_of_ble_eq_true rfl⟩ hH ⟨0, 3, _, _, rfl, rfl, rfl⟩ rfl hl.1 (Nat.le_of_ble_eq_true rfl) dX3_check_3 ⟨Nat.le_of_ble_eq_true rfl, Nat.le_of_ble_eq_true rfl⟩ rfl (fun u H locs hH => ?_)
  have hH : HH G A s (mW G q f a) H locs := hH
  refine callVI0 (rest := []) F (c_X3_asks_1 l G q f a) gX3_check_X3_asks rfl hdX3_asks ⟨Nat.le_of_ble_eq_true rfl, Nat.le_of_ble_eq_true rfl⟩ hH ⟨0, 3, _, _, rfl, rfl, rfl⟩ rfl hl.1 (Nat.le_of_ble_eq_true rfl) dX3_check_6 ⟨Nat.le_of_ble_eq_true rfl, Nat.le_of_ble_eq_true rfl⟩ rfl (fun u H locs hH => ?_)
  have hH : HH G A s (mW G q (va_up f 24 0) a) H locs := hH
  refine lv_if_ne (tgt := 14) hx hb dX3_check_9 (by decide) (fun c_9 => ?_) (fun c_9 => absurd c_9 (by decide))
  refine lv_aload_n hx hb dX3_check_14 rfl (lv_at hl 0 rfl) ?_
  refine rget (C := RX3) (T := TX3) (N := 25) (ref := RX3) F in_X3_check_X3 hH 0 rfl rfl 23 (by decide) (by decide +kernel) (fun _ h9 => h9) (v := .ref (q 23)) rfl dX3_check_15 ?_
  refine lv_iload_n hx hb dX3_check_18 rfl (lv_at hl 1 rfl) ?_
  refine rzald F hH 19 (n := 201) (f := a 23) rfl j rfl (by omega) (by decide) dX3_check_19 ?_
  refine lv_if_eq (tgt := 29) hx hb dX3_check_20 (by decide) (fun c_20 => absurd c_20 hk) (fun c_20 => ?_)
  refine lv_aload_n hx hb dX3_check_23 rfl (lv_at hl 0 rfl) ?_
  refine lv_iconst (v := 2) hx hb dX3_check_24 (by decide) ?_
  refine callVI0 (rest := []) F (c_X3_fails l G q (va_up f 24 0) a 2) gX3_check_X3_fails rfl hdX3_fails ⟨Nat.le_of_ble_eq_true rfl, Nat.le_of_ble_eq_true rfl⟩ hH ⟨0, 3, _, _, rfl, rfl, rfl⟩ rfl hl.1 (Nat.le_of_ble_eq_true rfl) dX3_check_25 ⟨Nat.le_of_ble_eq_true rfl, Nat.le_of_ble_eq_true rfl⟩ rfl (fun u H locs hH => ?_)
  have hH : HH G A s (mW G q (va_up f 24 2) a) H locs := hH
  exact retI F hr rfl (fun _ => 0) hH rfl (Nat.le_of_ble_eq_true rfl) (Nat.le_of_ble_eq_true rfl) dX3_check_28

set_option maxHeartbeats 4000000 in
set_option maxRecDepth 100000 in
theorem c_X3_check_2 (l : Launch) (G : Gx) (q : Nat → Nat) (f : Nat → Int32) (a : Nat → Nat → Int32) (t : Nat) (e16 : f 16 = nI t) (ht : t ≤ 201) (w : Int32) (h : w < 0 ∨ nI t ≤ w) : MI l yX3_check wsX3_check ({ frames := 1, cells := 0, slots := 0, locals := 21 } : Room) [.ref (q 0), .int w] G (mW G q f a) (fun u => mW G q (va_up f 24 1) a) 0 := by
  refine ofMI (cc := cX3_check) (maxL := 7) (ret := (some .int)) (by decide) rfl (Nat.le_of_ble_eq_true rfl) (fun p e s m below meth c A ls F hr hnm hH hl => ?_)
  have F : Fx G p s m _ meth c cX3_check 7 wsX3_check RX3 A := F
  have hx := F.1.1
  have hb := F.1.2.1
  have hl : lv_has ls 7 [(0, .ref (q 0)), (1, .int w)] := hl
  refine lv_aload_n hx hb dX3_check_0 rfl (lv_at hl 0 rfl) ?_
  refine lv_aload_n hx hb dX3_check_1 rfl (lv_at hl 0 rfl) ?_
  refine lv_iload_n hx hb dX3_check_2 rfl (lv_at hl 1 rfl) ?_
  refine callVI0 (rest := [.ref (q 0)]) F (c_X3_isPast_0 l G q f a t e16 ht w h) gX3_check_X3_isPast rfl hdX3_isPast ⟨Nat.le_of_ble_eq_true rfl, Nat.le_of_ble_eq_true rfl⟩ hH ⟨0, 3, _, _, rfl, rfl, rfl⟩ rfl hl.1 (Nat.le_of_ble_eq_true rfl) dX3_check_3 ⟨Nat.le_of_ble_eq_true rfl, Nat.le_of_ble_eq_true rfl⟩ rfl (fun u H locs hH => ?_)
  have hH : HH G A s (mW G q f a) H locs := hH
  refine callVI0 (rest := []) F (c_X3_asks_0 l G q f a) gX3_check_X3_asks rfl hdX3_asks ⟨Nat.le_of_ble_eq_true rfl, Nat.le_of_ble_eq_true rfl⟩ hH ⟨0, 3, _, _, rfl, rfl, rfl⟩ rfl hl.1 (Nat.le_of_ble_eq_true rfl) dX3_check_6 ⟨Nat.le_of_ble_eq_true rfl, Nat.le_of_ble_eq_true rfl⟩ rfl (fun u H locs hH => ?_)
  have hH : HH G A s (mW G q (va_up f 24 1) a) H locs := hH
  refine lv_if_ne (tgt := 14) hx hb dX3_check_9 (by decide) (fun c_9 => absurd rfl c_9) (fun c_9 => ?_)
  refine lv_iconst (v := 0) hx hb dX3_check_12 (by decide) ?_
  exact retI F hr rfl (fun _ => 0) hH rfl (Nat.le_of_ble_eq_true rfl) (Nat.le_of_ble_eq_true rfl) dX3_check_13
