set_option maxHeartbeats 4000000 in
set_option maxRecDepth 100000 in
theorem c_X2_notice_1 (l : Launch) (G : Gx) (q : Nat → Nat) (n nc t : Nat) (fl fd : Int32) (k : Nat → Int32) (wd : Nat → Nat → Nat) (wf : Nat → Nat → Int32) (wa : Nat → Nat → Nat → Int32) (cd : Nat → Nat) (cf : Nat → Nat → Int32) (hn : n ≤ 8) (i : Nat) (hi : i < n) (ht : t ≤ 201) (cn : Nat) (e8 : wf i 8 = nI cn) (hcn : cn < 30) (x y : Nat) (hxy : x ≤ y) (hy : y ≤ 200) (h : Int32) (h1 : 0 ≤ h) (h2 : h ≤ 40) (htx : t + 2 ≤ x) : MI l yX2_notice wsX2_notice ({ frames := 2, cells := 0, slots := 0, locals := 44 } : Room) [.ref (q 0), .int (nI i), .int (nI x), .int (nI y), .int h] G (sW G q n nc t fl fd k wd wf wa cd cf) (fun u => sW G q n nc t fl fd k wd (va_up wf i (va_up (wf i) 8 (wf i 8 + 1))) (va_up wa i (va_up (wa i) 2 (fillR (wa i 2) x (y + 1) h))) cd cf) (nI (cn + 1)) := by
  refine ofMI (cc := cX2_notice) (maxL := 6) (ret := (some .int)) (by decide) rfl (Nat.le_of_ble_eq_true rfl) (fun p e s m below meth c A ls F hr hnm hH hl => ?_)
  have F : Fx G p s m _ meth c cX2_notice 6 wsX2_notice RX2 A := F
  have hx := F.1.1
  have hb := F.1.2.1
  have hl : lv_has ls 6 [(0, .ref (q 0)), (1, .int (nI i)), (2, .int (nI x)), (3, .int (nI y)), (4, .int h)] := hl
  refine lv_aload_n hx hb dX2_notice_0 rfl (lv_at hl 0 rfl) ?_
  refine lv_iload_n hx hb dX2_notice_1 rfl (lv_at hl 1 rfl) ?_
  refine callVR0 (rest := []) F (c_X2_workerAt_1 l G q n nc t fl fd k wd wf wa cd cf hn i hi) gX2_notice_X2_workerAt rfl hdX2_workerAt ⟨Nat.le_of_ble_eq_true rfl, Nat.le_of_ble_eq_true rfl⟩ hH ⟨0, 2, _, _, rfl, rfl, rfl⟩ rfl hl.1 (Nat.le_of_ble_eq_true rfl) dX2_notice_2 ⟨Nat.le_of_ble_eq_true rfl, Nat.le_of_ble_eq_true rfl⟩ rfl (fun H locs hH => ?_)
  refine lv_astore (lv' := [(5, .ref (wd i 0)), (0, .ref (q 0)), (1, .int (nI i)), (2, .int (nI x)), (3, .int (nI y)), (4, .int h)]) hx hb dX2_notice_5 hl (by decide) rfl (fun ls hl => ?_)
  refine lv_iload_n hx hb dX2_notice_7 rfl (lv_at hl 3 rfl) ?_
  refine lv_iload_n hx hb dX2_notice_8 rfl (lv_at hl 4 rfl) ?_
  refine callSI0 (rest := []) F (c_X2_isSpan_1 l G _ (nI x) (nI y) (nI_pos' (by omega)) (nI_le (a := x) (b := 200) (by omega) (by decide)) (nI_le hxy (by omega)) (nI_le (a := y) (b := 200) hy (by decide))) gX2_notice_X2_isSpan rfl hdX2_isSpan ⟨Nat.le_of_ble_eq_true rfl, Nat.le_of_ble_eq_true rfl⟩ hH rfl hl.1 (Nat.le_of_ble_eq_true rfl) dX2_notice_9 ⟨Nat.le_of_ble_eq_true rfl, Nat.le_of_ble_eq_true rfl⟩ rfl (fun u H locs hH => ?_)
  have hH : HH G A s (sW G q n nc t fl fd k wd wf wa cd cf) H locs := hH
  refine lv_if_eq (tgt := 30) hx hb dX2_notice_12 (by decide) (fun c_12 => absurd c_12 (by decide)) (fun c_12 => ?_)
  refine lv_iload hx hb dX2_notice_15 (lv_at hl 5 rfl) ?_
  refine lv_iconst (v := 0) hx hb dX2_notice_17 (by decide) ?_
  refine lv_bipush (v := 40) hx hb dX2_notice_18 (by decide) ?_
  refine callSI0 (rest := []) F (c_X2_isWithin_1 l G _ h 0 40 h1 h2) gX2_notice_X2_isWithin rfl hdX2_isWithin ⟨Nat.le_of_ble_eq_true rfl, Nat.le_of_ble_eq_true rfl⟩ hH rfl hl.1 (Nat.le_of_ble_eq_true rfl) dX2_notice_20 ⟨Nat.le_of_ble_eq_true rfl, Nat.le_of_ble_eq_true rfl⟩ rfl (fun u H locs hH => ?_)
  have hH : HH G A s (sW G q n nc t fl fd k wd wf wa cd cf) H locs := hH
  refine lv_if_eq (tgt := 30) hx hb dX2_notice_23 (by decide) (fun c_23 => absurd c_23 (by decide)) (fun c_23 => ?_)
  refine lv_iconst (v := 1) hx hb dX2_notice_26 (by decide) ?_
  refine lv_goto (tgt := 31) hx hb dX2_notice_27 (by decide) ?_
  refine callSV0 (rest := []) F (c_X2_requireArgument_1 l G _) gX2_notice_X2_requireArgument rfl hdX2_requireArgument ⟨Nat.le_of_ble_eq_true rfl, Nat.le_of_ble_eq_true rfl⟩ hH rfl hl.1 (Nat.le_of_ble_eq_true rfl) dX2_notice_31 ⟨Nat.le_of_ble_eq_true rfl, Nat.le_of_ble_eq_true rfl⟩ rfl (fun u H locs hH => ?_)
  have hH : HH G A s (sW G q n nc t fl fd k wd wf wa cd cf) H locs := hH
  refine lv_iload_n hx hb dX2_notice_34 rfl (lv_at hl 3 rfl) ?_
  refine lv_aload_n hx hb dX2_notice_35 rfl (lv_at hl 1 rfl) ?_
  refine rget (C := RX2) (T := TX2) (N := 8) (ref := RX2) F in_X2_notice_X2 hH 0 rfl rfl 5 (by decide) (by decide +kernel) (fun _ h9 => h9) (v := .int (nI t)) rfl dX2_notice_36 ?_
  refine lv_iconst (v := 2) hx hb dX2_notice_39 (by decide) ?_
  refine lv_iadd hx hb dX2_notice_40 ?_
  refine lv_icmp_lt (tgt := 58) hx hb dX2_notice_41 (by decide) (fun c_41 => absurd c_41 (by rw [nI_2]; exact nI_nlt htx (by omega))) (fun c_41 => ?_)
  refine lv_aload hx hb dX2_notice_44 (lv_at hl 0 rfl) ?_
  refine rgetN (C := RX1) (T := TX1) (N := 12) (ref := RX1) (host := RX2) F in_X2_notice_X1 hH (4 + 7 * i + 0) (sW_at hi (j := 0) rfl) rfl 8 (by decide) (by decide +kernel) (fun _ h9 => h9) (v := .int (wf i 8)) rfl dX2_notice_46 ?_
  refine lv_bipush (v := 30) hx hb dX2_notice_49 (by decide) ?_
  refine lv_icmp_ge (tgt := 58) hx hb dX2_notice_51 (by decide) (fun c_51 => absurd c_51 (by rw [e8]; exact nI_ge (a := cn) (b := 30) hcn (by decide))) (fun c_51 => ?_)
  refine lv_iconst (v := 1) hx hb dX2_notice_54 (by decide) ?_
  refine lv_goto (tgt := 59) hx hb dX2_notice_55 (by decide) ?_
  refine callSV0 (rest := []) F (c_X2_requireState_1 l G _) gX2_notice_X2_requireState rfl hdX2_requireState ⟨Nat.le_of_ble_eq_true rfl, Nat.le_of_ble_eq_true rfl⟩ hH rfl hl.1 (Nat.le_of_ble_eq_true rfl) dX2_notice_59 ⟨Nat.le_of_ble_eq_true rfl, Nat.le_of_ble_eq_true rfl⟩ rfl (fun u H locs hH => ?_)
  have hH : HH G A s (sW G q n nc t fl fd k wd wf wa cd cf) H locs := hH
  refine lv_aload hx hb dX2_notice_62 (lv_at hl 0 rfl) ?_
  refine lv_iload_n hx hb dX2_notice_64 rfl (lv_at hl 3 rfl) ?_
  refine lv_iload_n hx hb dX2_notice_65 rfl (lv_at hl 4 rfl) ?_
  refine lv_iload hx hb dX2_notice_66 (lv_at hl 5 rfl) ?_
  obtain ⟨a9, b9, -, h91, h92⟩ := sW_mid (G := G) (q := q) (n := n) (m := nc) (t := t) (fl := fl) (fd := fd) (k := k) (wd := wd) (wf := wf) (wa := wa) (cd := cd) (cf := cf) hi
  refine callVV (rest := []) F (c_X1_takeNotice l G (wd i) (wf i) (wa i) x y hxy hy h) gX2_notice_X1_takeNotice rfl hdX1_takeNotice ⟨Nat.le_of_ble_eq_true rfl, Nat.le_of_ble_eq_true rfl⟩ a9 b9 hH h91 ⟨0, 1, _, _, rfl, rfl, rfl⟩ rfl hl.1 (Nat.le_of_ble_eq_true rfl) dX2_notice_68 ⟨Nat.le_of_ble_eq_true rfl, Nat.le_of_ble_eq_true rfl⟩ rfl (fun u H locs hH => ?_)
  have hH : HH G A s (sW G q n nc t fl fd k wd (va_up wf i (va_up (wf i) 8 (wf i 8 + 1))) (va_up wa i (va_up (wa i) 2 (fillR (wa i 2) x (y + 1) h))) cd cf) H locs := by rw [h92]; exact hH
  refine lv_aload hx hb dX2_notice_71 (lv_at hl 0 rfl) ?_
  refine rgetN (C := RX1) (T := TX1) (N := 12) (ref := RX1) (host := RX2) F in_X2_notice_X1 hH (4 + 7 * i + 0) (sW_at hi (j := 0) rfl) rfl 8 (by decide) (by decide +kernel) (fun _ h9 => h9) (v := .int ((va_up wf i (va_up (wf i) 8 (wf i 8 + 1))) i 8)) rfl dX2_notice_73 ?_
  exact retI F hr rfl (fun _ => 0) hH (by rw [va_up_self, va_up_self, e8, nI_1]) (Nat.le_of_ble_eq_true rfl) (Nat.le_of_ble_eq_true rfl) dX2_notice_76

set_option maxHeartbeats 4000000 in
set_option maxRecDepth 100000 in
theorem c_X2_notice_3 (l : Launch) (hst : l.stackTraces = false) (G : Gx) (q : Nat → Nat) (n nc t : Nat) (fl fd : Int32) (k : Nat → Int32) (wd : Nat → Nat → Nat) (wf : Nat → Nat → Int32) (wa : Nat → Nat → Nat → Int32) (cd : Nat → Nat) (cf : Nat → Nat → Int32) (hn : n ≤ 8) (i : Nat) (hi : i < n) (ht : t ≤ 201) (cn : Nat) (e8 : wf i 8 = nI cn) (hcn : cn ≤ 30) (x y : Nat) (hxy : x ≤ y) (hy : y ≤ 200) (h : Int32) (h1 : 0 ≤ h) (h2 : h ≤ 40) (hz : x < t + 2 ∨ cn = 30) : MX l yX2_notice wsX2_notice ({ frames := 7, cells := 1, slots := 6, locals := 110 } : Room) [.ref (q 0), .int (nI i), .int (nI x), .int (nI y), .int h] G (sW G q n nc t fl fd k wd wf wa cd cf) "java/lang/IllegalStateException" := by
  refine ofMX (cc := cX2_notice) (maxL := 6) (ret := (some .int)) (by decide) rfl (Nat.le_of_ble_eq_true rfl) (fun p e s m below meth c A ls F htb hH hl => ?_)
  have F : Fx G p s m _ meth c cX2_notice 6 wsX2_notice RX2 A := F
  have hx := F.1.1
  have hb := F.1.2.1
  have hl : lv_has ls 6 [(0, .ref (q 0)), (1, .int (nI i)), (2, .int (nI x)), (3, .int (nI y)), (4, .int h)] := hl
  refine lv_aload_n hx hb dX2_notice_0 rfl (lv_at hl 0 rfl) ?_
  refine lv_iload_n hx hb dX2_notice_1 rfl (lv_at hl 1 rfl) ?_
  refine callVR0 (rest := []) F (c_X2_workerAt_1 l G q n nc t fl fd k wd wf wa cd cf hn i hi) gX2_notice_X2_workerAt rfl hdX2_workerAt ⟨Nat.le_of_ble_eq_true rfl, Nat.le_of_ble_eq_true rfl⟩ hH ⟨0, 2, _, _, rfl, rfl, rfl⟩ rfl hl.1 (Nat.le_of_ble_eq_true rfl) dX2_notice_2 ⟨Nat.le_of_ble_eq_true rfl, Nat.le_of_ble_eq_true rfl⟩ rfl (fun H locs hH => ?_)
  refine lv_astore (lv' := [(5, .ref (wd i 0)), (0, .ref (q 0)), (1, .int (nI i)), (2, .int (nI x)), (3, .int (nI y)), (4, .int h)]) hx hb dX2_notice_5 hl (by decide) rfl (fun ls hl => ?_)
  refine lv_iload_n hx hb dX2_notice_7 rfl (lv_at hl 3 rfl) ?_
  refine lv_iload_n hx hb dX2_notice_8 rfl (lv_at hl 4 rfl) ?_
  refine callSI0 (rest := []) F (c_X2_isSpan_1 l G _ (nI x) (nI y) (nI_pos' (by omega)) (nI_le (a := x) (b := 200) (by omega) (by decide)) (nI_le hxy (by omega)) (nI_le (a := y) (b := 200) hy (by decide))) gX2_notice_X2_isSpan rfl hdX2_isSpan ⟨Nat.le_of_ble_eq_true rfl, Nat.le_of_ble_eq_true rfl⟩ hH rfl hl.1 (Nat.le_of_ble_eq_true rfl) dX2_notice_9 ⟨Nat.le_of_ble_eq_true rfl, Nat.le_of_ble_eq_true rfl⟩ rfl (fun u H locs hH => ?_)
  have hH : HH G A s (sW G q n nc t fl fd k wd wf wa cd cf) H locs := hH
  refine lv_if_eq (tgt := 30) hx hb dX2_notice_12 (by decide) (fun c_12 => absurd c_12 (by decide)) (fun c_12 => ?_)
  refine lv_iload hx hb dX2_notice_15 (lv_at hl 5 rfl) ?_
  refine lv_iconst (v := 0) hx hb dX2_notice_17 (by decide) ?_
  refine lv_bipush (v := 40) hx hb dX2_notice_18 (by decide) ?_
  refine callSI0 (rest := []) F (c_X2_isWithin_1 l G _ h 0 40 h1 h2) gX2_notice_X2_isWithin rfl hdX2_isWithin ⟨Nat.le_of_ble_eq_true rfl, Nat.le_of_ble_eq_true rfl⟩ hH rfl hl.1 (Nat.le_of_ble_eq_true rfl) dX2_notice_20 ⟨Nat.le_of_ble_eq_true rfl, Nat.le_of_ble_eq_true rfl⟩ rfl (fun u H locs hH => ?_)
  have hH : HH G A s (sW G q n nc t fl fd k wd wf wa cd cf) H locs := hH
  refine lv_if_eq (tgt := 30) hx hb dX2_notice_23 (by decide) (fun c_23 => absurd c_23 (by decide)) (fun c_23 => ?_)
  refine lv_iconst (v := 1) hx hb dX2_notice_26 (by decide) ?_
  refine lv_goto (tgt := 31) hx hb dX2_notice_27 (by decide) ?_
  refine callSV0 (rest := []) F (c_X2_requireArgument_1 l G _) gX2_notice_X2_requireArgument rfl hdX2_requireArgument ⟨Nat.le_of_ble_eq_true rfl, Nat.le_of_ble_eq_true rfl⟩ hH rfl hl.1 (Nat.le_of_ble_eq_true rfl) dX2_notice_31 ⟨Nat.le_of_ble_eq_true rfl, Nat.le_of_ble_eq_true rfl⟩ rfl (fun u H locs hH => ?_)
  have hH : HH G A s (sW G q n nc t fl fd k wd wf wa cd cf) H locs := hH
  rcases hz with hz | hz
  · refine lv_iload_n hx hb dX2_notice_34 rfl (lv_at hl 3 rfl) ?_
    refine lv_aload_n hx hb dX2_notice_35 rfl (lv_at hl 1 rfl) ?_
    refine rget (C := RX2) (T := TX2) (N := 8) (ref := RX2) F in_X2_notice_X2 hH 0 rfl rfl 5 (by decide) (by decide +kernel) (fun _ h9 => h9) (v := .int (nI t)) rfl dX2_notice_36 ?_
    refine lv_iconst (v := 2) hx hb dX2_notice_39 (by decide) ?_
    refine lv_iadd hx hb dX2_notice_40 ?_
    refine lv_icmp_lt (tgt := 58) hx hb dX2_notice_41 (by decide) (fun c_41 => ?_) (fun c_41 => absurd (by rw [nI_2]; exact nI_lt hz (by omega)) c_41)
    refine lv_iconst (v := 0) hx hb dX2_notice_58 (by decide) ?_
    exact callSX0 (rest := []) F (c_X2_requireState_0 l hst G _) gX2_notice_X2_requireState rfl hdX2_requireState ⟨Nat.le_of_ble_eq_true rfl, Nat.le_of_ble_eq_true rfl⟩ hH rfl hl.1 (Nat.le_of_ble_eq_true rfl) dX2_notice_59 ⟨Nat.le_of_ble_eq_true rfl, Nat.le_of_ble_eq_true rfl⟩ rfl htb (Nat.le_of_ble_eq_true rfl) (Nat.le_of_ble_eq_true rfl)
  · refine lv_iload_n hx hb dX2_notice_34 rfl (lv_at hl 3 rfl) ?_
    refine lv_aload_n hx hb dX2_notice_35 rfl (lv_at hl 1 rfl) ?_
    refine rget (C := RX2) (T := TX2) (N := 8) (ref := RX2) F in_X2_notice_X2 hH 0 rfl rfl 5 (by decide) (by decide +kernel) (fun _ h9 => h9) (v := .int (nI t)) rfl dX2_notice_36 ?_
    refine lv_iconst (v := 2) hx hb dX2_notice_39 (by decide) ?_
    refine lv_iadd hx hb dX2_notice_40 ?_
    refine lv_icmp_lt (tgt := 58) hx hb dX2_notice_41 (by decide) (fun c_41 => ?_) (fun c_41 => ?_)
    · refine lv_iconst (v := 0) hx hb dX2_notice_58 (by decide) ?_
      exact callSX0 (rest := []) F (c_X2_requireState_0 l hst G _) gX2_notice_X2_requireState rfl hdX2_requireState ⟨Nat.le_of_ble_eq_true rfl, Nat.le_of_ble_eq_true rfl⟩ hH rfl hl.1 (Nat.le_of_ble_eq_true rfl) dX2_notice_59 ⟨Nat.le_of_ble_eq_true rfl, Nat.le_of_ble_eq_true rfl⟩ rfl htb (Nat.le_of_ble_eq_true rfl) (Nat.le_of_ble_eq_true rfl)
    · refine lv_aload hx hb dX2_notice_44 (lv_at hl 0 rfl) ?_
      refine rgetN (C := RX1) (T := TX1) (N := 12) (ref := RX1) (host := RX2) F in_X2_notice_X1 hH (4 + 7 * i + 0) (sW_at hi (j := 0) rfl) rfl 8 (by decide) (by decide +kernel) (fun _ h9 => h9) (v := .int (wf i 8)) rfl dX2_notice_46 ?_
      refine lv_bipush (v := 30) hx hb dX2_notice_49 (by decide) ?_
      refine lv_icmp_ge (tgt := 58) hx hb dX2_notice_51 (by decide) (fun c_51 => ?_) (fun c_51 => absurd (by rw [e8, hz]; decide) c_51)
      refine lv_iconst (v := 0) hx hb dX2_notice_58 (by decide) ?_
      exact callSX0 (rest := []) F (c_X2_requireState_0 l hst G _) gX2_notice_X2_requireState rfl hdX2_requireState ⟨Nat.le_of_ble_eq_true rfl, Nat.le_of_ble_eq_true rfl⟩ hH rfl hl.1 (Nat.le_of_ble_eq_true rfl) dX2_notice_59 ⟨Nat.le_of_ble_eq_true rfl, Nat.le_of_ble_eq_true rfl⟩ rfl htb (Nat.le_of_ble_eq_true rfl) (Nat.le_of_ble_eq_true rfl)

set_option maxHeartbeats 4000000 in
set_option maxRecDepth 100000 in
theorem c_X2_notice_2 (l : Launch) (hst : l.stackTraces = false) (G : Gx) (q : Nat → Nat) (n nc t : Nat) (fl fd : Int32) (k : Nat → Int32) (wd : Nat → Nat → Nat) (wf : Nat → Nat → Int32) (wa : Nat → Nat → Nat → Int32) (cd : Nat → Nat) (cf : Nat → Nat → Int32) (hn : n ≤ 8) (i : Nat) (hi : i < n) (x y z : Int32) (h : (x < 0 ∨ 200 < x) ∨ ((0 ≤ x ∧ x ≤ 200) ∧ (y < x ∨ 200 < y)) ∨ ((0 ≤ x ∧ x ≤ 200 ∧ x ≤ y ∧ y ≤ 200) ∧ (z < 0 ∨ 40 < z))) : MX l yX2_notice wsX2_notice ({ frames := 7, cells := 1, slots := 6, locals := 110 } : Room) [.ref (q 0), .int (nI i), .int x, .int y, .int z] G (sW G q n nc t fl fd k wd wf wa cd cf) "java/lang/IllegalArgumentException" := by
  refine ofMX (cc := cX2_notice) (maxL := 6) (ret := (some .int)) (by decide) rfl (Nat.le_of_ble_eq_true rfl) (fun p e s m below meth c A ls F htb hH hl => ?_)
  have F : Fx G p s m _ meth c cX2_notice 6 wsX2_notice RX2 A := F
  have hx := F.1.1
  have hb := F.1.2.1
  have hl : lv_has ls 6 [(0, .ref (q 0)), (1, .int (nI i)), (2, .int x), (3, .int y), (4, .int z)] := hl
  refine lv_aload_n hx hb dX2_notice_0 rfl (lv_at hl 0 rfl) ?_
  refine lv_iload_n hx hb dX2_notice_1 rfl (lv_at hl 1 rfl) ?_
  refine callVR0 (rest := []) F (c_X2_workerAt_1 l G q n nc t fl fd k wd wf wa cd cf hn i hi) gX2_notice_X2_workerAt rfl hdX2_workerAt ⟨Nat.le_of_ble_eq_true rfl, Nat.le_of_ble_eq_true rfl⟩ hH ⟨0, 2, _, _, rfl, rfl, rfl⟩ rfl hl.1 (Nat.le_of_ble_eq_true rfl) dX2_notice_2 ⟨Nat.le_of_ble_eq_true rfl, Nat.le_of_ble_eq_true rfl⟩ rfl (fun H locs hH => ?_)
  rcases h with h | ⟨⟨g1, g2⟩, h⟩ | ⟨⟨g1, g2, g3, g4⟩, h⟩
  · refine lv_astore (lv' := [(5, .ref (wd i 0)), (0, .ref (q 0)), (1, .int (nI i)), (2, .int x), (3, .int y), (4, .int z)]) hx hb dX2_notice_5 hl (by decide) rfl (fun ls hl => ?_)
    refine lv_iload_n hx hb dX2_notice_7 rfl (lv_at hl 3 rfl) ?_
    refine lv_iload_n hx hb dX2_notice_8 rfl (lv_at hl 4 rfl) ?_
    refine callSI0 (rest := []) F (c_X2_isSpan_0 l G _ x y h) gX2_notice_X2_isSpan rfl hdX2_isSpan ⟨Nat.le_of_ble_eq_true rfl, Nat.le_of_ble_eq_true rfl⟩ hH rfl hl.1 (Nat.le_of_ble_eq_true rfl) dX2_notice_9 ⟨Nat.le_of_ble_eq_true rfl, Nat.le_of_ble_eq_true rfl⟩ rfl (fun u H locs hH => ?_)
    have hH : HH G A s (sW G q n nc t fl fd k wd wf wa cd cf) H locs := hH
    refine lv_if_eq (tgt := 30) hx hb dX2_notice_12 (by decide) (fun c_12 => ?_) (fun c_12 => absurd rfl c_12)
    refine lv_iconst (v := 0) hx hb dX2_notice_30 (by decide) ?_
    exact callSX0 (rest := []) F (c_X2_requireArgument_0 l hst G _) gX2_notice_X2_requireArgument rfl hdX2_requireArgument ⟨Nat.le_of_ble_eq_true rfl, Nat.le_of_ble_eq_true rfl⟩ hH rfl hl.1 (Nat.le_of_ble_eq_true rfl) dX2_notice_31 ⟨Nat.le_of_ble_eq_true rfl, Nat.le_of_ble_eq_true rfl⟩ rfl htb (Nat.le_of_ble_eq_true rfl) (Nat.le_of_ble_eq_true rfl)
  · refine lv_astore (lv' := [(5, .ref (wd i 0)), (0, .ref (q 0)), (1, .int (nI i)), (2, .int x), (3, .int y), (4, .int z)]) hx hb dX2_notice_5 hl (by decide) rfl (fun ls hl => ?_)
    refine lv_iload_n hx hb dX2_notice_7 rfl (lv_at hl 3 rfl) ?_
    refine lv_iload_n hx hb dX2_notice_8 rfl (lv_at hl 4 rfl) ?_
    refine callSI0 (rest := []) F (c_X2_isSpan_00 l G _ x y g1 g2 h) gX2_notice_X2_isSpan rfl hdX2_isSpan ⟨Nat.le_of_ble_eq_true rfl, Nat.le_of_ble_eq_true rfl⟩ hH rfl hl.1 (Nat.le_of_ble_eq_true rfl) dX2_notice_9 ⟨Nat.le_of_ble_eq_true rfl, Nat.le_of_ble_eq_true rfl⟩ rfl (fun u H locs hH => ?_)
    have hH : HH G A s (sW G q n nc t fl fd k wd wf wa cd cf) H locs := hH
    refine lv_if_eq (tgt := 30) hx hb dX2_notice_12 (by decide) (fun c_12 => ?_) (fun c_12 => absurd rfl c_12)
    refine lv_iconst (v := 0) hx hb dX2_notice_30 (by decide) ?_
    exact callSX0 (rest := []) F (c_X2_requireArgument_0 l hst G _) gX2_notice_X2_requireArgument rfl hdX2_requireArgument ⟨Nat.le_of_ble_eq_true rfl, Nat.le_of_ble_eq_true rfl⟩ hH rfl hl.1 (Nat.le_of_ble_eq_true rfl) dX2_notice_31 ⟨Nat.le_of_ble_eq_true rfl, Nat.le_of_ble_eq_true rfl⟩ rfl htb (Nat.le_of_ble_eq_true rfl) (Nat.le_of_ble_eq_true rfl)
  · refine lv_astore (lv' := [(5, .ref (wd i 0)), (0, .ref (q 0)), (1, .int (nI i)), (2, .int x), (3, .int y), (4, .int z)]) hx hb dX2_notice_5 hl (by decide) rfl (fun ls hl => ?_)
    refine lv_iload_n hx hb dX2_notice_7 rfl (lv_at hl 3 rfl) ?_
    refine lv_iload_n hx hb dX2_notice_8 rfl (lv_at hl 4 rfl) ?_
    refine callSI0 (rest := []) F (c_X2_isSpan_1 l G _ x y g1 g2 g3 g4) gX2_notice_X2_isSpan rfl hdX2_isSpan ⟨Nat.le_of_ble_eq_true rfl, Nat.le_of_ble_eq_true rfl⟩ hH rfl hl.1 (Nat.le_of_ble_eq_true rfl) dX2_notice_9 ⟨Nat.le_of_ble_eq_true rfl, Nat.le_of_ble_eq_true rfl⟩ rfl (fun u H locs hH => ?_)
    have hH : HH G A s (sW G q n nc t fl fd k wd wf wa cd cf) H locs := hH
    refine lv_if_eq (tgt := 30) hx hb dX2_notice_12 (by decide) (fun c_12 => absurd c_12 (by decide)) (fun c_12 => ?_)
    refine lv_iload hx hb dX2_notice_15 (lv_at hl 5 rfl) ?_
    refine lv_iconst (v := 0) hx hb dX2_notice_17 (by decide) ?_
    refine lv_bipush (v := 40) hx hb dX2_notice_18 (by decide) ?_
    refine callSI0 (rest := []) F (c_X2_isWithin_0 l G _ z 0 40 h) gX2_notice_X2_isWithin rfl hdX2_isWithin ⟨Nat.le_of_ble_eq_true rfl, Nat.le_of_ble_eq_true rfl⟩ hH rfl hl.1 (Nat.le_of_ble_eq_true rfl) dX2_notice_20 ⟨Nat.le_of_ble_eq_true rfl, Nat.le_of_ble_eq_true rfl⟩ rfl (fun u H locs hH => ?_)
    have hH : HH G A s (sW G q n nc t fl fd k wd wf wa cd cf) H locs := hH
    refine lv_if_eq (tgt := 30) hx hb dX2_notice_23 (by decide) (fun c_23 => ?_) (fun c_23 => absurd rfl c_23)
    refine lv_iconst (v := 0) hx hb dX2_notice_30 (by decide) ?_
    exact callSX0 (rest := []) F (c_X2_requireArgument_0 l hst G _) gX2_notice_X2_requireArgument rfl hdX2_requireArgument ⟨Nat.le_of_ble_eq_true rfl, Nat.le_of_ble_eq_true rfl⟩ hH rfl hl.1 (Nat.le_of_ble_eq_true rfl) dX2_notice_31 ⟨Nat.le_of_ble_eq_true rfl, Nat.le_of_ble_eq_true rfl⟩ rfl htb (Nat.le_of_ble_eq_true rfl) (Nat.le_of_ble_eq_true rfl)

set_option maxHeartbeats 4000000 in
set_option maxRecDepth 100000 in
theorem c_X2_notice_0 (l : Launch) (hst : l.stackTraces = false) (G : Gx) (q : Nat → Nat) (n nc t : Nat) (fl fd : Int32) (k : Nat → Int32) (wd : Nat → Nat → Nat) (wf : Nat → Nat → Int32) (wa : Nat → Nat → Nat → Int32) (cd : Nat → Nat) (cf : Nat → Nat → Int32) (hn : n ≤ 8) (v : Int32) (h : v < 0 ∨ nI n ≤ v) (x y z : Int32) : MX l yX2_notice wsX2_notice ({ frames := 7, cells := 1, slots := 6, locals := 112 } : Room) [.ref (q 0), .int v, .int x, .int y, .int z] G (sW G q n nc t fl fd k wd wf wa cd cf) "java/lang/IndexOutOfBoundsException" := by
  refine ofMX (cc := cX2_notice) (maxL := 6) (ret := (some .int)) (by decide) rfl (Nat.le_of_ble_eq_true rfl) (fun p e s m below meth c A ls F htb hH hl => ?_)
  have F : Fx G p s m _ meth c cX2_notice 6 wsX2_notice RX2 A := F
  have hx := F.1.1
  have hb := F.1.2.1
  have hl : lv_has ls 6 [(0, .ref (q 0)), (1, .int v), (2, .int x), (3, .int y), (4, .int z)] := hl
  refine lv_aload_n hx hb dX2_notice_0 rfl (lv_at hl 0 rfl) ?_
  refine lv_iload_n hx hb dX2_notice_1 rfl (lv_at hl 1 rfl) ?_
  exact callVX0 (rest := []) F (c_X2_workerAt_0 l hst G q n nc t fl fd k wd wf wa cd cf hn v h) gX2_notice_X2_workerAt rfl hdX2_workerAt ⟨Nat.le_of_ble_eq_true rfl, Nat.le_of_ble_eq_true rfl⟩ hH ⟨0, 2, _, _, rfl, rfl, rfl⟩ rfl hl.1 (Nat.le_of_ble_eq_true rfl) dX2_notice_2 ⟨Nat.le_of_ble_eq_true rfl, Nat.le_of_ble_eq_true rfl⟩ rfl htb (Nat.le_of_ble_eq_true rfl) (Nat.le_of_ble_eq_true rfl)

set_option maxHeartbeats 4000000 in
set_option maxRecDepth 100000 in
theorem c_X1_goTo (l : Launch) (G : Gx) (q : Nat → Nat) (n nc t : Nat) (fl fd : Int32) (k : Nat → Int32) (wd : Nat → Nat → Nat) (wf : Nat → Nat → Int32) (wa : Nat → Nat → Nat → Int32) (cd : Nat → Nat) (cf : Nat → Nat → Int32) (hn : n ≤ 8) (i : Nat) (hi : i < n) (hnc : nc ≤ 10) (j : Nat) (hj : j < nc) (x y : Nat) (hb0 : cf j 0 = nI x) (hb1 : cf j 1 = nI y) (hxy : x ≤ y) (hy : y ≤ 200) : MV l yX1_goTo wsX1_goTo ({ frames := 0, cells := 0, slots := 0, locals := 0 } : Room) [.ref (wd i 0), .ref (cd j)] G (sW G q n nc t fl fd k wd wf wa cd cf) (fun u => sW G q n nc t fl fd k wd wf (va_up wa i (va_up (wa i) 3 (fillR (wa i 3) x (y + 1) (cf j 2)))) cd cf) := by
  refine ofMV (cc := cX1_goTo) (maxL := 3) (ret := none) (by decide) rfl (Nat.le_of_ble_eq_true rfl) (fun p e s m below meth c A ls F hr hnm hH hl => ?_)
  have F : Fx G p s m _ meth c cX1_goTo 3 wsX1_goTo RX1 A := F
  have hx := F.1.1
  have hb := F.1.2.1
  have hl : lv_has ls 3 [(0, .ref (wd i 0)), (1, .ref (cd j))] := hl
  refine lv_aload_n hx hb dX1_goTo_0 rfl (lv_at hl 1 rfl) ?_
  refine rgetN (C := RX0) (T := TX0) (N := 4) (ref := RX0) (host := RX2) F in_X1_goTo_X0 hH (4 + 7 * n + j) (sW_atC hj) rfl 0 (by decide) (by decide +kernel) (fun _ h9 => h9) (v := .int (cf j 0)) rfl dX1_goTo_1 ?_
  refine lv_istore_n (lv' := [(2, .int (cf j 0)), (0, .ref (wd i 0)), (1, .ref (cd j))]) hx hb dX1_goTo_4 rfl hl (by decide) rfl (fun ls hl => ?_)
  have loop : ∀ (n9 : Nat) (k9 : Nat) (hc9 : k9 + n9 = y + 1) (hxi : x ≤ k9) (H : Heap) (locs : List Loc) (ls : Array Slot), HH G A s (sW G q n nc t fl fd k wd wf (va_up wa i (va_up (wa i) 3 (fillR (wa i 3) x k9 (cf j 2)))) cd cf) H locs → lv_has ls 3 [(2, .int (nI k9)), (0, .ref (wd i 0)), (1, .ref (cd j))] → W p l e ({ frames := 0, cells := 0, slots := 0, locals := 0 } : Room) s m [.ref (wd i 0), .ref (cd j)].toArray below meth c H locs 0 0 (EnV G A below s [.ref (wd i 0), .ref (cd j)].toArray ({ frames := 0, cells := 0, slots := 0, locals := 0 } : Room) (fun u => sW G q n nc t fl fd k wd wf (va_up wa i (va_up (wa i) 3 (fillR (wa i 3) x (y + 1) (cf j 2)))) cd cf)) (F0 m 5 ls []) := by
    intro n9
    induction n9 with
    | zero =>
      intro k9 hc9 hxi H locs ls hH hl
      refine lv_iload_n hx hb dX1_goTo_5 rfl (lv_at hl 0 rfl) ?_
      refine lv_aload_n hx hb dX1_goTo_6 rfl (lv_at hl 2 rfl) ?_
      refine rgetN (C := RX0) (T := TX0) (N := 4) (ref := RX0) (host := RX2) F in_X1_goTo_X0 hH (4 + 7 * n + j) (sW_atC hj) rfl 1 (by decide) (by decide +kernel) (fun _ h9 => h9) (v := .int (cf j 1)) rfl dX1_goTo_7 ?_
      refine lv_icmp_gt (tgt := 29) hx hb dX1_goTo_10 (by decide) (fun c_10 => ?_) (fun c_10 => absurd (by rw [hb1, show k9 = y + 1 by omega]; exact nI_lt (by omega) (by omega)) c_10)
      exact retV F hr (fun _ => 0) (by rw [show y + 1 = k9 by omega]; exact hH) (Nat.le_of_ble_eq_true rfl) (Nat.le_of_ble_eq_true rfl) dX1_goTo_29
    | succ n9 ih =>
      intro k9 hc9 hxi H locs ls hH hl
      refine lv_iload_n hx hb dX1_goTo_5 rfl (lv_at hl 0 rfl) ?_
      refine lv_aload_n hx hb dX1_goTo_6 rfl (lv_at hl 2 rfl) ?_
      refine rgetN (C := RX0) (T := TX0) (N := 4) (ref := RX0) (host := RX2) F in_X1_goTo_X0 hH (4 + 7 * n + j) (sW_atC hj) rfl 1 (by decide) (by decide +kernel) (fun _ h9 => h9) (v := .int (cf j 1)) rfl dX1_goTo_7 ?_
      refine lv_icmp_gt (tgt := 29) hx hb dX1_goTo_10 (by decide) (fun c_10 => absurd c_10 (by rw [hb1]; exact nI_nlt (by omega) (by omega))) (fun c_10 => ?_)
      refine lv_aload_n hx hb dX1_goTo_13 rfl (lv_at hl 1 rfl) ?_
      refine rget (C := RX1) (T := TX1) (N := 12) (ref := RX1) F in_X1_goTo_X1 hH (4 + 7 * i + 0) (sW_at hi (j := 0) rfl) rfl 3 (by decide) (by decide +kernel) (fun _ h9 => h9) (v := .ref (wd i 3)) rfl dX1_goTo_14 ?_
      refine lv_iload_n hx hb dX1_goTo_17 rfl (lv_at hl 0 rfl) ?_
      refine lv_aload_n hx hb dX1_goTo_18 rfl (lv_at hl 2 rfl) ?_
      refine rgetN (C := RX0) (T := TX0) (N := 4) (ref := RX0) (host := RX2) F in_X1_goTo_X0 hH (4 + 7 * n + j) (sW_atC hj) rfl 2 (by decide) (by decide +kernel) (fun _ h9 => h9) (v := .int (cf j 2)) rfl dX1_goTo_19 ?_
      refine riast F hH (4 + 7 * i + 2) (n := 201) (f := (va_up wa i (va_up (wa i) 3 (fillR (wa i 3) x k9 (cf j 2)))) i 3) (sW_at hi (j := 2) rfl) k9 rfl (by omega) (by decide) dX1_goTo_22 (fun H locs hH => ?_)
      have hH : HH G A s (sW G q n nc t fl fd k wd wf (va_up (va_up wa i (va_up (wa i) 3 (fillR (wa i 3) x k9 (cf j 2)))) i (va_up ((va_up wa i (va_up (wa i) 3 (fillR (wa i 3) x k9 (cf j 2)))) i) 3 (upd ((va_up wa i (va_up (wa i) 3 (fillR (wa i 3) x k9 (cf j 2)))) i 3) k9 (cf j 2)))) cd cf) H locs := (sW_setA (wd := wd) (wf := wf) (wa := va_up wa i (va_up (wa i) 3 (fillR (wa i 3) x k9 (cf j 2)))) hi (j := 2) (by decide) (a' := va_up ((va_up wa i (va_up (wa i) 3 (fillR (wa i 3) x k9 (cf j 2)))) i) 3 (upd ((va_up wa i (va_up (wa i) 3 (fillR (wa i 3) x k9 (cf j 2)))) i 3) k9 (cf j 2))) rfl ▸ hH)
      refine lv_iinc (v := (nI (k9 + 1))) (lv' := [(2, .int (nI (k9 + 1))), (0, .ref (wd i 0)), (1, .ref (cd j))]) hx hb dX1_goTo_23 hl (k := 0) rfl (nI_1 k9) (by decide) rfl (fun ls hl => ?_)
      refine lv_goto (tgt := 5) hx hb dX1_goTo_26 (by decide) ?_
      exact ih (k9 + 1) (by omega) (by omega) _ _ _ (by rw [← fillR_step hxi]; exact goTo_w hH) (lv_sub hl [0, 1, 2] (rfl))
  exact loop (y + 1 - x) x (by omega) (Nat.le_refl x) _ _ _ (by rw [fillR_0, va_up_id, va_up_id]; exact hH) (lv_sub hl [0, 1, 2] (by rw [hb0]; rfl))

set_option maxHeartbeats 4000000 in
set_option maxRecDepth 100000 in
theorem c_X2_enrol_1 (l : Launch) (G : Gx) (q : Nat → Nat) (n nc t : Nat) (fl fd : Int32) (k : Nat → Int32) (wd : Nat → Nat → Nat) (wf : Nat → Nat → Int32) (wa : Nat → Nat → Nat → Int32) (cd : Nat → Nat) (cf : Nat → Nat → Int32) (hn : n ≤ 8) (i : Nat) (hi : i < n) (hnc : nc ≤ 10) (j : Nat) (hj : j < nc) (x y : Nat) (hb0 : cf j 0 = nI x) (hb1 : cf j 1 = nI y) (hxy : x ≤ y) (hy : y ≤ 200) (hs : 0 < cf j 3) (hw : nI t ≤ cf j 1) (hno : ∀ z, x ≤ z → z ≤ y → wa i 3 z ≤ 0) : MI l yX2_enrol wsX2_enrol ({ frames := 2, cells := 0, slots := 0, locals := 44 } : Room) [.ref (q 0), .int (nI i), .int (nI j)] G (sW G q n nc t fl fd k wd wf wa cd cf) (fun u => sW G q n nc t fl fd k wd wf (va_up wa i (va_up (wa i) 3 (fillR (wa i 3) x (y + 1) (cf j 2)))) cd (va_up cf j (va_up (cf j) 3 ((cf j 3) - 1)))) (cf j 3 - 1) := by
  refine ofMI (cc := cX2_enrol) (maxL := 5) (ret := (some .int)) (by decide) rfl (Nat.le_of_ble_eq_true rfl) (fun p e s m below meth c A ls F hr hnm hH hl => ?_)
  have F : Fx G p s m _ meth c cX2_enrol 5 wsX2_enrol RX2 A := F
  have hx := F.1.1
  have hb := F.1.2.1
  have hl : lv_has ls 5 [(0, .ref (q 0)), (1, .int (nI i)), (2, .int (nI j))] := hl
  refine lv_aload_n hx hb dX2_enrol_0 rfl (lv_at hl 0 rfl) ?_
  refine lv_iload_n hx hb dX2_enrol_1 rfl (lv_at hl 1 rfl) ?_
  refine callVR0 (rest := []) F (c_X2_workerAt_1 l G q n nc t fl fd k wd wf wa cd cf hn i hi) gX2_enrol_X2_workerAt rfl hdX2_workerAt ⟨Nat.le_of_ble_eq_true rfl, Nat.le_of_ble_eq_true rfl⟩ hH ⟨0, 2, _, _, rfl, rfl, rfl⟩ rfl hl.1 (Nat.le_of_ble_eq_true rfl) dX2_enrol_2 ⟨Nat.le_of_ble_eq_true rfl, Nat.le_of_ble_eq_true rfl⟩ rfl (fun H locs hH => ?_)
  refine lv_astore_n (lv' := [(3, .ref (wd i 0)), (0, .ref (q 0)), (1, .int (nI i)), (2, .int (nI j))]) hx hb dX2_enrol_5 rfl hl (by decide) rfl (fun ls hl => ?_)
  refine lv_aload_n hx hb dX2_enrol_6 rfl (lv_at hl 1 rfl) ?_
  refine lv_iload_n hx hb dX2_enrol_7 rfl (lv_at hl 3 rfl) ?_
  refine callVR0 (rest := []) F (c_X2_courseAt_1 l G q n nc t fl fd k wd wf wa cd cf hnc j hj) gX2_enrol_X2_courseAt rfl hdX2_courseAt ⟨Nat.le_of_ble_eq_true rfl, Nat.le_of_ble_eq_true rfl⟩ hH ⟨0, 2, _, _, rfl, rfl, rfl⟩ rfl hl.1 (Nat.le_of_ble_eq_true rfl) dX2_enrol_8 ⟨Nat.le_of_ble_eq_true rfl, Nat.le_of_ble_eq_true rfl⟩ rfl (fun H locs hH => ?_)
  refine lv_astore (lv' := [(4, .ref (cd j)), (3, .ref (wd i 0)), (0, .ref (q 0)), (1, .int (nI i)), (2, .int (nI j))]) hx hb dX2_enrol_11 hl (by decide) rfl (fun ls hl => ?_)
  refine lv_aload hx hb dX2_enrol_13 (lv_at hl 0 rfl) ?_
  refine rgetN (C := RX0) (T := TX0) (N := 4) (ref := RX0) (host := RX2) F in_X2_enrol_X0 hH (4 + 7 * n + j) (sW_atC hj) rfl 3 (by decide) (by decide +kernel) (fun _ h9 => h9) (v := .int (cf j 3)) rfl dX2_enrol_15 ?_
  refine lv_if_le (tgt := 54) hx hb dX2_enrol_18 (by decide) (fun c_18 => absurd c_18 (i_nle hs)) (fun c_18 => ?_)
  refine lv_aload hx hb dX2_enrol_21 (lv_at hl 0 rfl) ?_
  refine rgetN (C := RX0) (T := TX0) (N := 4) (ref := RX0) (host := RX2) F in_X2_enrol_X0 hH (4 + 7 * n + j) (sW_atC hj) rfl 1 (by decide) (by decide +kernel) (fun _ h9 => h9) (v := .int (cf j 1)) rfl dX2_enrol_23 ?_
  refine lv_aload_n hx hb dX2_enrol_26 rfl (lv_at hl 2 rfl) ?_
  refine rget (C := RX2) (T := TX2) (N := 8) (ref := RX2) F in_X2_enrol_X2 hH 0 rfl rfl 5 (by decide) (by decide +kernel) (fun _ h9 => h9) (v := .int (nI t)) rfl dX2_enrol_27 ?_
  refine lv_icmp_lt (tgt := 54) hx hb dX2_enrol_30 (by decide) (fun c_30 => absurd c_30 (i_nlt hw)) (fun c_30 => ?_)
  refine lv_aload_n hx hb dX2_enrol_33 rfl (lv_at hl 1 rfl) ?_
  refine lv_aload hx hb dX2_enrol_34 (lv_at hl 0 rfl) ?_
  refine rgetN (C := RX0) (T := TX0) (N := 4) (ref := RX0) (host := RX2) F in_X2_enrol_X0 hH (4 + 7 * n + j) (sW_atC hj) rfl 0 (by decide) (by decide +kernel) (fun _ h9 => h9) (v := .int (cf j 0)) rfl dX2_enrol_36 ?_
  refine lv_aload hx hb dX2_enrol_39 (lv_at hl 0 rfl) ?_
  refine rgetN (C := RX0) (T := TX0) (N := 4) (ref := RX0) (host := RX2) F in_X2_enrol_X0 hH (4 + 7 * n + j) (sW_atC hj) rfl 1 (by decide) (by decide +kernel) (fun _ h9 => h9) (v := .int (cf j 1)) rfl dX2_enrol_41 ?_
  obtain ⟨a9, b9, -, h91, h92⟩ := sW_mid (G := G) (q := q) (n := n) (m := nc) (t := t) (fl := fl) (fd := fd) (k := k) (wd := wd) (wf := wf) (wa := wa) (cd := cd) (cf := cf) hi
  refine callVI (rest := []) F (c_X1_hasNoCourseFrom_1 l G (wd i) (wf i) (wa i) x y hxy hy hno) gX2_enrol_X1_hasNoCourseFrom rfl hdX1_hasNoCourseFrom ⟨Nat.le_of_ble_eq_true rfl, Nat.le_of_ble_eq_true rfl⟩ a9 b9 hH h91 ⟨0, 1, _, _, rfl, rfl, rfl⟩ rfl hl.1 (Nat.le_of_ble_eq_true rfl) dX2_enrol_44 ⟨Nat.le_of_ble_eq_true rfl, Nat.le_of_ble_eq_true rfl⟩ (by rw [hb0, hb1]; rfl) (fun u H locs hH => ?_)
  have hH : HH G A s (sW G q n nc t fl fd k wd wf wa cd cf) H locs := by rw [h91]; exact hH
  refine lv_if_eq (tgt := 54) hx hb dX2_enrol_47 (by decide) (fun c_47 => absurd c_47 (by decide)) (fun c_47 => ?_)
  refine lv_iconst (v := 1) hx hb dX2_enrol_50 (by decide) ?_
  refine lv_goto (tgt := 55) hx hb dX2_enrol_51 (by decide) ?_
  refine callSV0 (rest := []) F (c_X2_requireState_1 l G _) gX2_enrol_X2_requireState rfl hdX2_requireState ⟨Nat.le_of_ble_eq_true rfl, Nat.le_of_ble_eq_true rfl⟩ hH rfl hl.1 (Nat.le_of_ble_eq_true rfl) dX2_enrol_55 ⟨Nat.le_of_ble_eq_true rfl, Nat.le_of_ble_eq_true rfl⟩ rfl (fun u H locs hH => ?_)
  have hH : HH G A s (sW G q n nc t fl fd k wd wf wa cd cf) H locs := hH
  refine lv_aload_n hx hb dX2_enrol_58 rfl (lv_at hl 1 rfl) ?_
  refine lv_aload hx hb dX2_enrol_59 (lv_at hl 0 rfl) ?_
  refine callVV0 (rest := []) F (c_X1_goTo l G q n nc t fl fd k wd wf wa cd cf hn i hi hnc j hj x y hb0 hb1 hxy hy) gX2_enrol_X1_goTo rfl hdX1_goTo ⟨Nat.le_of_ble_eq_true rfl, Nat.le_of_ble_eq_true rfl⟩ hH ⟨(4 + 7 * i + 0), 1, _, _, (sW_at hi (j := 0) rfl), rfl, rfl⟩ rfl hl.1 (Nat.le_of_ble_eq_true rfl) dX2_enrol_61 ⟨Nat.le_of_ble_eq_true rfl, Nat.le_of_ble_eq_true rfl⟩ rfl (fun u H locs hH => ?_)
  have hH : HH G A s (sW G q n nc t fl fd k wd wf (va_up wa i (va_up (wa i) 3 (fillR (wa i 3) x (y + 1) (cf j 2)))) cd cf) H locs := hH
  refine lv_aload hx hb dX2_enrol_64 (lv_at hl 0 rfl) ?_
  refine lv_dup hx hb dX2_enrol_66 rfl ?_
  refine rgetN (C := RX0) (T := TX0) (N := 4) (ref := RX0) (host := RX2) F in_X2_enrol_X0 hH (4 + 7 * n + j) (sW_atC hj) rfl 3 (by decide) (by decide +kernel) (fun _ h9 => h9) (v := .int (cf j 3)) rfl dX2_enrol_67 ?_
  refine lv_iconst (v := 1) hx hb dX2_enrol_70 (by decide) ?_
  refine lv_isub hx hb dX2_enrol_71 ?_
  refine rputN (C := RX0) (T := TX0) (N := 4) (ref := RX0) (host := RX2) F in_X2_enrol_X0 tyX0 tyX0_ok nmX0 hH (4 + 7 * n + j) (sW_atC hj) rfl 3 (by decide) (by decide +kernel) (fun _ h9 => h9) rfl (v := .int ((cf j 3) - 1)) rfl rfl (Nat.le_of_ble_eq_true rfl) dX2_enrol_72 (fun H locs hH => ?_)
  have hH : HH G A s (sW G q n nc t fl fd k wd wf (va_up wa i (va_up (wa i) 3 (fillR (wa i 3) x (y + 1) (cf j 2)))) cd (va_up cf j (va_up (cf j) 3 ((cf j 3) - 1)))) H locs := (sW_setC (cd := cd) (cf := cf) hj (f' := va_up (cf j) 3 ((cf j 3) - 1)) rfl ▸ hH)
  refine lv_aload hx hb dX2_enrol_75 (lv_at hl 0 rfl) ?_
  refine rgetN (C := RX0) (T := TX0) (N := 4) (ref := RX0) (host := RX2) F in_X2_enrol_X0 hH (4 + 7 * n + j) (sW_atC hj) rfl 3 (by decide) (by decide +kernel) (fun _ h9 => h9) (v := .int ((va_up cf j (va_up (cf j) 3 ((cf j 3) - 1))) j 3)) rfl dX2_enrol_77 ?_
  exact retI F hr rfl (fun _ => 0) hH (by rw [va_up_self, va_up_self]) (Nat.le_of_ble_eq_true rfl) (Nat.le_of_ble_eq_true rfl) dX2_enrol_80

set_option maxHeartbeats 4000000 in
set_option maxRecDepth 100000 in
theorem c_X2_enrol_2 (l : Launch) (hst : l.stackTraces = false) (G : Gx) (q : Nat → Nat) (n nc t : Nat) (fl fd : Int32) (k : Nat → Int32) (wd : Nat → Nat → Nat) (wf : Nat → Nat → Int32) (wa : Nat → Nat → Nat → Int32) (cd : Nat → Nat) (cf : Nat → Nat → Int32) (hn : n ≤ 8) (i : Nat) (hi : i < n) (hnc : nc ≤ 10) (j : Nat) (hj : j < nc) (x y : Nat) (hb0 : cf j 0 = nI x) (hb1 : cf j 1 = nI y) (hxy : x ≤ y) (hy : y ≤ 200) (hz : cf j 3 ≤ 0 ∨ (0 < cf j 3 ∧ cf j 1 < nI t) ∨ (0 < cf j 3 ∧ nI t ≤ cf j 1 ∧ ∃ z, x ≤ z ∧ z ≤ y ∧ ¬ wa i 3 z ≤ 0)) : MX l yX2_enrol wsX2_enrol ({ frames := 7, cells := 1, slots := 6, locals := 110 } : Room) [.ref (q 0), .int (nI i), .int (nI j)] G (sW G q n nc t fl fd k wd wf wa cd cf) "java/lang/IllegalStateException" := by
  refine ofMX (cc := cX2_enrol) (maxL := 5) (ret := (some .int)) (by decide) rfl (Nat.le_of_ble_eq_true rfl) (fun p e s m below meth c A ls F htb hH hl => ?_)
  have F : Fx G p s m _ meth c cX2_enrol 5 wsX2_enrol RX2 A := F
  have hx := F.1.1
  have hb := F.1.2.1
  have hl : lv_has ls 5 [(0, .ref (q 0)), (1, .int (nI i)), (2, .int (nI j))] := hl
  refine lv_aload_n hx hb dX2_enrol_0 rfl (lv_at hl 0 rfl) ?_
  refine lv_iload_n hx hb dX2_enrol_1 rfl (lv_at hl 1 rfl) ?_
  refine callVR0 (rest := []) F (c_X2_workerAt_1 l G q n nc t fl fd k wd wf wa cd cf hn i hi) gX2_enrol_X2_workerAt rfl hdX2_workerAt ⟨Nat.le_of_ble_eq_true rfl, Nat.le_of_ble_eq_true rfl⟩ hH ⟨0, 2, _, _, rfl, rfl, rfl⟩ rfl hl.1 (Nat.le_of_ble_eq_true rfl) dX2_enrol_2 ⟨Nat.le_of_ble_eq_true rfl, Nat.le_of_ble_eq_true rfl⟩ rfl (fun H locs hH => ?_)
  refine lv_astore_n (lv' := [(3, .ref (wd i 0)), (0, .ref (q 0)), (1, .int (nI i)), (2, .int (nI j))]) hx hb dX2_enrol_5 rfl hl (by decide) rfl (fun ls hl => ?_)
  refine lv_aload_n hx hb dX2_enrol_6 rfl (lv_at hl 1 rfl) ?_
  refine lv_iload_n hx hb dX2_enrol_7 rfl (lv_at hl 3 rfl) ?_
  refine callVR0 (rest := []) F (c_X2_courseAt_1 l G q n nc t fl fd k wd wf wa cd cf hnc j hj) gX2_enrol_X2_courseAt rfl hdX2_courseAt ⟨Nat.le_of_ble_eq_true rfl, Nat.le_of_ble_eq_true rfl⟩ hH ⟨0, 2, _, _, rfl, rfl, rfl⟩ rfl hl.1 (Nat.le_of_ble_eq_true rfl) dX2_enrol_8 ⟨Nat.le_of_ble_eq_true rfl, Nat.le_of_ble_eq_true rfl⟩ rfl (fun H locs hH => ?_)
  rcases hz with hz | ⟨hs, hw⟩ | ⟨hs, hw, hex⟩
  · refine lv_astore (lv' := [(4, .ref (cd j)), (3, .ref (wd i 0)), (0, .ref (q 0)), (1, .int (nI i)), (2, .int (nI j))]) hx hb dX2_enrol_11 hl (by decide) rfl (fun ls hl => ?_)
    refine lv_aload hx hb dX2_enrol_13 (lv_at hl 0 rfl) ?_
    refine rgetN (C := RX0) (T := TX0) (N := 4) (ref := RX0) (host := RX2) F in_X2_enrol_X0 hH (4 + 7 * n + j) (sW_atC hj) rfl 3 (by decide) (by decide +kernel) (fun _ h9 => h9) (v := .int (cf j 3)) rfl dX2_enrol_15 ?_
    refine lv_if_le (tgt := 54) hx hb dX2_enrol_18 (by decide) (fun c_18 => ?_) (fun c_18 => absurd hz c_18)
    refine lv_iconst (v := 0) hx hb dX2_enrol_54 (by decide) ?_
    exact callSX0 (rest := []) F (c_X2_requireState_0 l hst G _) gX2_enrol_X2_requireState rfl hdX2_requireState ⟨Nat.le_of_ble_eq_true rfl, Nat.le_of_ble_eq_true rfl⟩ hH rfl hl.1 (Nat.le_of_ble_eq_true rfl) dX2_enrol_55 ⟨Nat.le_of_ble_eq_true rfl, Nat.le_of_ble_eq_true rfl⟩ rfl htb (Nat.le_of_ble_eq_true rfl) (Nat.le_of_ble_eq_true rfl)
  · refine lv_astore (lv' := [(4, .ref (cd j)), (3, .ref (wd i 0)), (0, .ref (q 0)), (1, .int (nI i)), (2, .int (nI j))]) hx hb dX2_enrol_11 hl (by decide) rfl (fun ls hl => ?_)
    refine lv_aload hx hb dX2_enrol_13 (lv_at hl 0 rfl) ?_
    refine rgetN (C := RX0) (T := TX0) (N := 4) (ref := RX0) (host := RX2) F in_X2_enrol_X0 hH (4 + 7 * n + j) (sW_atC hj) rfl 3 (by decide) (by decide +kernel) (fun _ h9 => h9) (v := .int (cf j 3)) rfl dX2_enrol_15 ?_
    refine lv_if_le (tgt := 54) hx hb dX2_enrol_18 (by decide) (fun c_18 => absurd c_18 (i_nle hs)) (fun c_18 => ?_)
    refine lv_aload hx hb dX2_enrol_21 (lv_at hl 0 rfl) ?_
    refine rgetN (C := RX0) (T := TX0) (N := 4) (ref := RX0) (host := RX2) F in_X2_enrol_X0 hH (4 + 7 * n + j) (sW_atC hj) rfl 1 (by decide) (by decide +kernel) (fun _ h9 => h9) (v := .int (cf j 1)) rfl dX2_enrol_23 ?_
    refine lv_aload_n hx hb dX2_enrol_26 rfl (lv_at hl 2 rfl) ?_
    refine rget (C := RX2) (T := TX2) (N := 8) (ref := RX2) F in_X2_enrol_X2 hH 0 rfl rfl 5 (by decide) (by decide +kernel) (fun _ h9 => h9) (v := .int (nI t)) rfl dX2_enrol_27 ?_
    refine lv_icmp_lt (tgt := 54) hx hb dX2_enrol_30 (by decide) (fun c_30 => ?_) (fun c_30 => absurd hw c_30)
    refine lv_iconst (v := 0) hx hb dX2_enrol_54 (by decide) ?_
    exact callSX0 (rest := []) F (c_X2_requireState_0 l hst G _) gX2_enrol_X2_requireState rfl hdX2_requireState ⟨Nat.le_of_ble_eq_true rfl, Nat.le_of_ble_eq_true rfl⟩ hH rfl hl.1 (Nat.le_of_ble_eq_true rfl) dX2_enrol_55 ⟨Nat.le_of_ble_eq_true rfl, Nat.le_of_ble_eq_true rfl⟩ rfl htb (Nat.le_of_ble_eq_true rfl) (Nat.le_of_ble_eq_true rfl)
  · refine lv_astore (lv' := [(4, .ref (cd j)), (3, .ref (wd i 0)), (0, .ref (q 0)), (1, .int (nI i)), (2, .int (nI j))]) hx hb dX2_enrol_11 hl (by decide) rfl (fun ls hl => ?_)
    refine lv_aload hx hb dX2_enrol_13 (lv_at hl 0 rfl) ?_
    refine rgetN (C := RX0) (T := TX0) (N := 4) (ref := RX0) (host := RX2) F in_X2_enrol_X0 hH (4 + 7 * n + j) (sW_atC hj) rfl 3 (by decide) (by decide +kernel) (fun _ h9 => h9) (v := .int (cf j 3)) rfl dX2_enrol_15 ?_
    refine lv_if_le (tgt := 54) hx hb dX2_enrol_18 (by decide) (fun c_18 => absurd c_18 (i_nle hs)) (fun c_18 => ?_)
    refine lv_aload hx hb dX2_enrol_21 (lv_at hl 0 rfl) ?_
    refine rgetN (C := RX0) (T := TX0) (N := 4) (ref := RX0) (host := RX2) F in_X2_enrol_X0 hH (4 + 7 * n + j) (sW_atC hj) rfl 1 (by decide) (by decide +kernel) (fun _ h9 => h9) (v := .int (cf j 1)) rfl dX2_enrol_23 ?_
    refine lv_aload_n hx hb dX2_enrol_26 rfl (lv_at hl 2 rfl) ?_
    refine rget (C := RX2) (T := TX2) (N := 8) (ref := RX2) F in_X2_enrol_X2 hH 0 rfl rfl 5 (by decide) (by decide +kernel) (fun _ h9 => h9) (v := .int (nI t)) rfl dX2_enrol_27 ?_
    refine lv_icmp_lt (tgt := 54) hx hb dX2_enrol_30 (by decide) (fun c_30 => absurd c_30 (i_nlt hw)) (fun c_30 => ?_)
    refine lv_aload_n hx hb dX2_enrol_33 rfl (lv_at hl 1 rfl) ?_
    refine lv_aload hx hb dX2_enrol_34 (lv_at hl 0 rfl) ?_
    refine rgetN (C := RX0) (T := TX0) (N := 4) (ref := RX0) (host := RX2) F in_X2_enrol_X0 hH (4 + 7 * n + j) (sW_atC hj) rfl 0 (by decide) (by decide +kernel) (fun _ h9 => h9) (v := .int (cf j 0)) rfl dX2_enrol_36 ?_
    refine lv_aload hx hb dX2_enrol_39 (lv_at hl 0 rfl) ?_
    refine rgetN (C := RX0) (T := TX0) (N := 4) (ref := RX0) (host := RX2) F in_X2_enrol_X0 hH (4 + 7 * n + j) (sW_atC hj) rfl 1 (by decide) (by decide +kernel) (fun _ h9 => h9) (v := .int (cf j 1)) rfl dX2_enrol_41 ?_
    obtain ⟨a9, b9, -, h91, h92⟩ := sW_mid (G := G) (q := q) (n := n) (m := nc) (t := t) (fl := fl) (fd := fd) (k := k) (wd := wd) (wf := wf) (wa := wa) (cd := cd) (cf := cf) hi
    refine callVI (rest := []) F (c_X1_hasNoCourseFrom_0 l G (wd i) (wf i) (wa i) x y hxy hy hex) gX2_enrol_X1_hasNoCourseFrom rfl hdX1_hasNoCourseFrom ⟨Nat.le_of_ble_eq_true rfl, Nat.le_of_ble_eq_true rfl⟩ a9 b9 hH h91 ⟨0, 1, _, _, rfl, rfl, rfl⟩ rfl hl.1 (Nat.le_of_ble_eq_true rfl) dX2_enrol_44 ⟨Nat.le_of_ble_eq_true rfl, Nat.le_of_ble_eq_true rfl⟩ (by rw [hb0, hb1]; rfl) (fun u H locs hH => ?_)
    have hH : HH G A s (sW G q n nc t fl fd k wd wf wa cd cf) H locs := by rw [h91]; exact hH
    refine lv_if_eq (tgt := 54) hx hb dX2_enrol_47 (by decide) (fun c_47 => ?_) (fun c_47 => absurd rfl c_47)
    refine lv_iconst (v := 0) hx hb dX2_enrol_54 (by decide) ?_
    exact callSX0 (rest := []) F (c_X2_requireState_0 l hst G _) gX2_enrol_X2_requireState rfl hdX2_requireState ⟨Nat.le_of_ble_eq_true rfl, Nat.le_of_ble_eq_true rfl⟩ hH rfl hl.1 (Nat.le_of_ble_eq_true rfl) dX2_enrol_55 ⟨Nat.le_of_ble_eq_true rfl, Nat.le_of_ble_eq_true rfl⟩ rfl htb (Nat.le_of_ble_eq_true rfl) (Nat.le_of_ble_eq_true rfl)

set_option maxHeartbeats 4000000 in
set_option maxRecDepth 100000 in
theorem c_X2_enrol_0 (l : Launch) (hst : l.stackTraces = false) (G : Gx) (q : Nat → Nat) (n nc t : Nat) (fl fd : Int32) (k : Nat → Int32) (wd : Nat → Nat → Nat) (wf : Nat → Nat → Int32) (wa : Nat → Nat → Nat → Int32) (cd : Nat → Nat) (cf : Nat → Nat → Int32) (hn : n ≤ 8) (v : Int32) (h : v < 0 ∨ nI n ≤ v) (w : Int32) : MX l yX2_enrol wsX2_enrol ({ frames := 7, cells := 1, slots := 6, locals := 112 } : Room) [.ref (q 0), .int v, .int w] G (sW G q n nc t fl fd k wd wf wa cd cf) "java/lang/IndexOutOfBoundsException" := by
  refine ofMX (cc := cX2_enrol) (maxL := 5) (ret := (some .int)) (by decide) rfl (Nat.le_of_ble_eq_true rfl) (fun p e s m below meth c A ls F htb hH hl => ?_)
  have F : Fx G p s m _ meth c cX2_enrol 5 wsX2_enrol RX2 A := F
  have hx := F.1.1
  have hb := F.1.2.1
  have hl : lv_has ls 5 [(0, .ref (q 0)), (1, .int v), (2, .int w)] := hl
  refine lv_aload_n hx hb dX2_enrol_0 rfl (lv_at hl 0 rfl) ?_
  refine lv_iload_n hx hb dX2_enrol_1 rfl (lv_at hl 1 rfl) ?_
  exact callVX0 (rest := []) F (c_X2_workerAt_0 l hst G q n nc t fl fd k wd wf wa cd cf hn v h) gX2_enrol_X2_workerAt rfl hdX2_workerAt ⟨Nat.le_of_ble_eq_true rfl, Nat.le_of_ble_eq_true rfl⟩ hH ⟨0, 2, _, _, rfl, rfl, rfl⟩ rfl hl.1 (Nat.le_of_ble_eq_true rfl) dX2_enrol_2 ⟨Nat.le_of_ble_eq_true rfl, Nat.le_of_ble_eq_true rfl⟩ rfl htb (Nat.le_of_ble_eq_true rfl) (Nat.le_of_ble_eq_true rfl)

set_option maxHeartbeats 4000000 in
set_option maxRecDepth 100000 in
theorem c_X2_enrol_00 (l : Launch) (hst : l.stackTraces = false) (G : Gx) (q : Nat → Nat) (n nc t : Nat) (fl fd : Int32) (k : Nat → Int32) (wd : Nat → Nat → Nat) (wf : Nat → Nat → Int32) (wa : Nat → Nat → Nat → Int32) (cd : Nat → Nat) (cf : Nat → Nat → Int32) (hn : n ≤ 8) (i : Nat) (hi : i < n) (hnc : nc ≤ 10) (w : Int32) (h : w < 0 ∨ nI nc ≤ w) : MX l yX2_enrol wsX2_enrol ({ frames := 7, cells := 1, slots := 6, locals := 112 } : Room) [.ref (q 0), .int (nI i), .int w] G (sW G q n nc t fl fd k wd wf wa cd cf) "java/lang/IndexOutOfBoundsException" := by
  refine ofMX (cc := cX2_enrol) (maxL := 5) (ret := (some .int)) (by decide) rfl (Nat.le_of_ble_eq_true rfl) (fun p e s m below meth c A ls F htb hH hl => ?_)
  have F : Fx G p s m _ meth c cX2_enrol 5 wsX2_enrol RX2 A := F
  have hx := F.1.1
  have hb := F.1.2.1
  have hl : lv_has ls 5 [(0, .ref (q 0)), (1, .int (nI i)), (2, .int w)] := hl
  refine lv_aload_n hx hb dX2_enrol_0 rfl (lv_at hl 0 rfl) ?_
  refine lv_iload_n hx hb dX2_enrol_1 rfl (lv_at hl 1 rfl) ?_
  refine callVR0 (rest := []) F (c_X2_workerAt_1 l G q n nc t fl fd k wd wf wa cd cf hn i hi) gX2_enrol_X2_workerAt rfl hdX2_workerAt ⟨Nat.le_of_ble_eq_true rfl, Nat.le_of_ble_eq_true rfl⟩ hH ⟨0, 2, _, _, rfl, rfl, rfl⟩ rfl hl.1 (Nat.le_of_ble_eq_true rfl) dX2_enrol_2 ⟨Nat.le_of_ble_eq_true rfl, Nat.le_of_ble_eq_true rfl⟩ rfl (fun H locs hH => ?_)
  refine lv_astore_n (lv' := [(3, .ref (wd i 0)), (0, .ref (q 0)), (1, .int (nI i)), (2, .int w)]) hx hb dX2_enrol_5 rfl hl (by decide) rfl (fun ls hl => ?_)
  refine lv_aload_n hx hb dX2_enrol_6 rfl (lv_at hl 1 rfl) ?_
  refine lv_iload_n hx hb dX2_enrol_7 rfl (lv_at hl 3 rfl) ?_
  exact callVX0 (rest := []) F (c_X2_courseAt_0 l hst G q n nc t fl fd k wd wf wa cd cf hnc w h) gX2_enrol_X2_courseAt rfl hdX2_courseAt ⟨Nat.le_of_ble_eq_true rfl, Nat.le_of_ble_eq_true rfl⟩ hH ⟨0, 2, _, _, rfl, rfl, rfl⟩ rfl hl.1 (Nat.le_of_ble_eq_true rfl) dX2_enrol_8 ⟨Nat.le_of_ble_eq_true rfl, Nat.le_of_ble_eq_true rfl⟩ rfl htb (Nat.le_of_ble_eq_true rfl) (Nat.le_of_ble_eq_true rfl)

set_option maxHeartbeats 4000000 in
set_option maxRecDepth 100000 in
theorem c_X2_payCurrentWeek (l : Launch) (G : Gx) (q : Nat → Nat) (n nc t : Nat) (fl fd : Int32) (k : Nat → Int32) (wd : Nat → Nat → Nat) (wf : Nat → Nat → Int32) (wa : Nat → Nat → Nat → Int32) (cd : Nat → Nat) (cf : Nat → Nat → Int32) (hn : n ≤ 8) (ht : t < 201) : MI l yX2_payCurrentWeek wsX2_payCurrentWeek ({ frames := 3, cells := 0, slots := 0, locals := 68 } : Room) [.ref (q 0)] G (sW G q n nc t fl fd k wd wf wa cd cf) (fun u => sW G q n nc t fl fd k wd (payWS fl t wf wa n).1 (payWS fl t wf wa n).2 cd cf) (payWT fl t wf wa n) := by
  refine ofMI (cc := cX2_payCurrentWeek) (maxL := 6) (ret := (some .int)) (by decide) rfl (Nat.le_of_ble_eq_true rfl) (fun p e s m below meth c A ls F hr hnm hH hl => ?_)
  have F : Fx G p s m _ meth c cX2_payCurrentWeek 6 wsX2_payCurrentWeek RX2 A := F
  have hx := F.1.1
  have hb := F.1.2.1
  have hl : lv_has ls 6 [(0, .ref (q 0))] := hl
  refine lv_iconst (v := 0) hx hb dX2_payCurrentWeek_0 (by decide) ?_
  refine lv_istore_n (lv' := [(1, .int 0), (0, .ref (q 0))]) hx hb dX2_payCurrentWeek_1 rfl hl (by decide) rfl (fun ls hl => ?_)
  refine lv_aload_n hx hb dX2_payCurrentWeek_2 rfl (lv_at hl 1 rfl) ?_
  refine rget (C := RX2) (T := TX2) (N := 8) (ref := RX2) F in_X2_payCurrentWeek_X2 hH 0 rfl rfl 0 (by decide) (by decide +kernel) (fun _ h9 => h9) (v := .ref (q 1)) rfl dX2_payCurrentWeek_3 ?_
  refine lv_astore_n (lv' := [(2, .ref (q 1)), (1, .int 0), (0, .ref (q 0))]) hx hb dX2_payCurrentWeek_6 rfl hl (by decide) rfl (fun ls hl => ?_)
  refine lv_aload_n hx hb dX2_payCurrentWeek_7 rfl (lv_at hl 0 rfl) ?_
  refine ralen F hH 1 2 rfl rfl (v := nI 8) rfl dX2_payCurrentWeek_8 ?_
  refine lv_istore_n (lv' := [(3, .int (nI 8)), (2, .ref (q 1)), (1, .int 0), (0, .ref (q 0))]) hx hb dX2_payCurrentWeek_9 rfl hl (by decide) rfl (fun ls hl => ?_)
  refine lv_iconst (v := 0) hx hb dX2_payCurrentWeek_10 (by decide) ?_
  refine lv_istore (lv' := [(4, .int 0), (3, .int (nI 8)), (2, .ref (q 1)), (1, .int 0), (0, .ref (q 0))]) hx hb dX2_payCurrentWeek_11 hl (by decide) rfl (fun ls hl => ?_)
  have loop : ∀ (n9 : Nat) (i : Nat) (z : Nat) (hc9 : i + n9 = 8) (hz : (z = i ∧ i ≤ n) ∨ (z = n ∧ n ≤ i)) (H : Heap) (locs : List Loc) (ls : Array Slot), HH G A s (sW G q n nc t fl fd k wd ((payWS fl t wf wa z).1) ((payWS fl t wf wa z).2) cd cf) H locs → lv_has ls 6 [(4, .int (nI i)), (1, .int (payWT fl t wf wa z)), (2, .ref (q 1)), (3, .int (nI 8)), (0, .ref (q 0))] → W p l e ({ frames := 3, cells := 0, slots := 0, locals := 68 } : Room) s m [.ref (q 0)].toArray below meth c H locs 0 0 (EnI G A below s [.ref (q 0)].toArray ({ frames := 3, cells := 0, slots := 0, locals := 68 } : Room) (fun u => sW G q n nc t fl fd k wd (payWS fl t wf wa n).1 (payWS fl t wf wa n).2 cd cf) (payWT fl t wf wa n)) (F0 m 13 ls []) := by
    intro n9
    induction n9 with
    | zero =>
      intro i z hc9 hz H locs ls hH hl
      refine lv_iload hx hb dX2_payCurrentWeek_13 (lv_at hl 0 rfl) ?_
      refine lv_iload_n hx hb dX2_payCurrentWeek_15 rfl (lv_at hl 3 rfl) ?_
      refine lv_icmp_ge (tgt := 52) hx hb dX2_payCurrentWeek_16 (by decide) (fun c_16 => ?_) (fun c_16 => absurd (nI_le (by omega) (by omega)) c_16)
      refine lv_iload_n hx hb dX2_payCurrentWeek_52 rfl (lv_at hl 1 rfl) ?_
      exact retI F hr rfl (fun _ => 0) (by have e9 : z = n := (by omega); subst e9; exact hH) (by rw [show z = n by omega]) (Nat.le_of_ble_eq_true rfl) (Nat.le_of_ble_eq_true rfl) dX2_payCurrentWeek_53
    | succ n9 ih =>
      intro i z hc9 hz H locs ls hH hl
      refine lv_iload hx hb dX2_payCurrentWeek_13 (lv_at hl 0 rfl) ?_
      refine lv_iload_n hx hb dX2_payCurrentWeek_15 rfl (lv_at hl 3 rfl) ?_
      refine lv_icmp_ge (tgt := 52) hx hb dX2_payCurrentWeek_16 (by decide) (fun c_16 => absurd c_16 (nI_ge (by omega) (by omega))) (fun c_16 => ?_)
      by_cases hin : i < n
      · have hzi : z = i := by omega
        have hzn : z < n := by omega
        refine lv_aload_n hx hb dX2_payCurrentWeek_19 rfl (lv_at hl 2 rfl) ?_
        refine lv_iload hx hb dX2_payCurrentWeek_20 (lv_at hl 0 rfl) ?_
        refine raald F hH 1 2 rfl rfl i rfl (by omega) (by decide) (v := .ref (wd z 0)) (by rw [hzi]; exact rfT_in hin) dX2_payCurrentWeek_22 ?_
        refine lv_astore (lv' := [(5, .ref (wd z 0)), (4, .int (nI i)), (1, .int (payWT fl t wf wa z)), (2, .ref (q 1)), (3, .int (nI 8)), (0, .ref (q 0))]) hx hb dX2_payCurrentWeek_23 hl (by decide) rfl (fun ls hl => ?_)
        refine lv_aload hx hb dX2_payCurrentWeek_25 (lv_at hl 0 rfl) ?_
        refine lv_ifnull hx hb dX2_payCurrentWeek_27 ?_
        refine lv_iload_n hx hb dX2_payCurrentWeek_30 rfl (lv_at hl 2 rfl) ?_
        refine lv_aload hx hb dX2_payCurrentWeek_31 (lv_at hl 0 rfl) ?_
        refine lv_aload_n hx hb dX2_payCurrentWeek_33 rfl (lv_at hl 5 rfl) ?_
        refine rget (C := RX2) (T := TX2) (N := 8) (ref := RX2) F in_X2_payCurrentWeek_X2 hH 0 rfl rfl 5 (by decide) (by decide +kernel) (fun _ h9 => h9) (v := .int (nI t)) rfl dX2_payCurrentWeek_34 ?_
        refine lv_aload_n hx hb dX2_payCurrentWeek_37 rfl (lv_at hl 5 rfl) ?_
        refine rget (C := RX2) (T := TX2) (N := 8) (ref := RX2) F in_X2_payCurrentWeek_X2 hH 0 rfl rfl 6 (by decide) (by decide +kernel) (fun _ h9 => h9) (v := .int fl) rfl dX2_payCurrentWeek_38 ?_
        obtain ⟨a9, b9, -, h91, h92⟩ := sW_mid (G := G) (q := q) (n := n) (m := nc) (t := t) (fl := fl) (fd := fd) (k := k) (wd := wd) (wf := (payWS fl t wf wa z).1) (wa := (payWS fl t wf wa z).2) (cd := cd) (cf := cf) hzn
        refine callVI (rest := [.int (payWT fl t wf wa z)]) F (c_X1_payFor l G (wd z) ((payWS fl t wf wa z).1 z) ((payWS fl t wf wa z).2 z) t (by omega) fl) gX2_payCurrentWeek_X1_payFor rfl hdX1_payFor ⟨Nat.le_of_ble_eq_true rfl, Nat.le_of_ble_eq_true rfl⟩ a9 b9 hH h91 ⟨0, 1, _, _, rfl, rfl, rfl⟩ rfl hl.1 (Nat.le_of_ble_eq_true rfl) dX2_payCurrentWeek_41 ⟨Nat.le_of_ble_eq_true rfl, Nat.le_of_ble_eq_true rfl⟩ rfl (fun u H locs hH => ?_)
        have hH : HH G A s (sW G q n nc t fl fd k wd (va_up ((payWS fl t wf wa z).1) z (pF ((payWS fl t wf wa z).1 z) ((payWS fl t wf wa z).2 z) t fl)) (va_up ((payWS fl t wf wa z).2) z (pA ((payWS fl t wf wa z).1 z) ((payWS fl t wf wa z).2 z) t fl)) cd cf) H locs := by rw [h92]; exact hH
        refine lv_iadd hx hb dX2_payCurrentWeek_44 ?_
        refine lv_istore_n (lv' := [(1, .int ((payWT fl t wf wa z) + (pR ((payWS fl t wf wa z).1 z) ((payWS fl t wf wa z).2 z) t fl))), (5, .ref (wd z 0)), (4, .int (nI i)), (2, .ref (q 1)), (3, .int (nI 8)), (0, .ref (q 0))]) hx hb dX2_payCurrentWeek_45 rfl hl (by decide) rfl (fun ls hl => ?_)
        refine lv_iinc (v := (nI (i + 1))) (lv' := [(4, .int (nI (i + 1))), (1, .int ((payWT fl t wf wa z) + (pR ((payWS fl t wf wa z).1 z) ((payWS fl t wf wa z).2 z) t fl))), (5, .ref (wd z 0)), (2, .ref (q 1)), (3, .int (nI 8)), (0, .ref (q 0))]) hx hb dX2_payCurrentWeek_46 hl (k := 2) rfl (nI_1 i) (by decide) rfl (fun ls hl => ?_)
        refine lv_goto (tgt := 13) hx hb dX2_payCurrentWeek_49 (by decide) ?_
        exact ih (i + 1) (z + 1) (by omega) (by omega) _ _ _ hH (lv_sub hl [0, 1, 3, 4, 5] (rfl))
      · refine lv_aload_n hx hb dX2_payCurrentWeek_19 rfl (lv_at hl 2 rfl) ?_
        refine lv_iload hx hb dX2_payCurrentWeek_20 (lv_at hl 0 rfl) ?_
        refine raald F hH 1 2 rfl rfl i rfl (by omega) (by decide) (v := .null) (rfT_out hin) dX2_payCurrentWeek_22 ?_
        refine lv_astoreN (lv' := [(5, .null), (4, .int (nI i)), (1, .int (payWT fl t wf wa z)), (2, .ref (q 1)), (3, .int (nI 8)), (0, .ref (q 0))]) hx hb dX2_payCurrentWeek_23 hl (by decide) rfl (fun ls hl => ?_)
        refine lv_aloadN hx hb dX2_payCurrentWeek_25 (lv_at hl 0 rfl) ?_
        refine lv_ifnullN (tgt := 46) hx hb dX2_payCurrentWeek_27 (by decide) ?_
        refine lv_iinc (v := (nI (i + 1))) (lv' := [(4, .int (nI (i + 1))), (5, .null), (1, .int (payWT fl t wf wa z)), (2, .ref (q 1)), (3, .int (nI 8)), (0, .ref (q 0))]) hx hb dX2_payCurrentWeek_46 hl (k := 1) rfl (nI_1 i) (by decide) rfl (fun ls hl => ?_)
        refine lv_goto (tgt := 13) hx hb dX2_payCurrentWeek_49 (by decide) ?_
        exact ih (i + 1) z (by omega) (by omega) _ _ _ hH (lv_sub hl [0, 2, 3, 4, 5] (rfl))
  exact loop 8 0 0 (by omega) (by omega) _ _ _ hH (lv_sub hl [0, 3, 2, 1, 4] (rfl))

set_option maxHeartbeats 4000000 in
set_option maxRecDepth 100000 in
theorem c_X2_pass_1 (l : Launch) (G : Gx) (q : Nat → Nat) (n nc t : Nat) (fl fd : Int32) (k : Nat → Int32) (wd : Nat → Nat → Nat) (wf : Nat → Nat → Int32) (wa : Nat → Nat → Nat → Int32) (cd : Nat → Nat) (cf : Nat → Nat → Int32) (hn : n ≤ 8) (w : Nat) (hw1 : 1 ≤ w) (hw2 : w ≤ 60) (hw : t + w ≤ 201) : MI l yX2_pass wsX2_pass ({ frames := 4, cells := 0, slots := 0, locals := 93 } : Room) [.ref (q 0), .int (nI w)] G (sW G q n nc t fl fd k wd wf wa cd cf) (fun u => sW G q n nc (t + w) fl fd k wd (passWS fl t n wf wa w).1 (passWS fl t n wf wa w).2 cd cf) (passWT fl t n wf wa w) := by
  refine ofMI (cc := cX2_pass) (maxL := 4) (ret := (some .int)) (by decide) rfl (Nat.le_of_ble_eq_true rfl) (fun p e s m below meth c A ls F hr hnm hH hl => ?_)
  have F : Fx G p s m _ meth c cX2_pass 4 wsX2_pass RX2 A := F
  have hx := F.1.1
  have hb := F.1.2.1
  have hl : lv_has ls 4 [(0, .ref (q 0)), (1, .int (nI w))] := hl
  refine lv_iload_n hx hb dX2_pass_0 rfl (lv_at hl 1 rfl) ?_
  refine lv_iconst (v := 1) hx hb dX2_pass_1 (by decide) ?_
  refine lv_bipush (v := 60) hx hb dX2_pass_2 (by decide) ?_
  refine callSI0 (rest := []) F (c_X2_isWithin_1 l G _ (nI w) 1 60 (nI_le (a := 1) (b := w) hw1 (by omega)) (nI_le (a := w) (b := 60) hw2 (by decide))) gX2_pass_X2_isWithin rfl hdX2_isWithin ⟨Nat.le_of_ble_eq_true rfl, Nat.le_of_ble_eq_true rfl⟩ hH rfl hl.1 (Nat.le_of_ble_eq_true rfl) dX2_pass_4 ⟨Nat.le_of_ble_eq_true rfl, Nat.le_of_ble_eq_true rfl⟩ rfl (fun u H locs hH => ?_)
  have hH : HH G A s (sW G q n nc t fl fd k wd wf wa cd cf) H locs := hH
  refine callSV0 (rest := []) F (c_X2_requireArgument_1 l G _) gX2_pass_X2_requireArgument rfl hdX2_requireArgument ⟨Nat.le_of_ble_eq_true rfl, Nat.le_of_ble_eq_true rfl⟩ hH rfl hl.1 (Nat.le_of_ble_eq_true rfl) dX2_pass_7 ⟨Nat.le_of_ble_eq_true rfl, Nat.le_of_ble_eq_true rfl⟩ rfl (fun u H locs hH => ?_)
  have hH : HH G A s (sW G q n nc t fl fd k wd wf wa cd cf) H locs := hH
  refine lv_aload_n hx hb dX2_pass_10 rfl (lv_at hl 0 rfl) ?_
  refine rget (C := RX2) (T := TX2) (N := 8) (ref := RX2) F in_X2_pass_X2 hH 0 rfl rfl 5 (by decide) (by decide +kernel) (fun _ h9 => h9) (v := .int (nI t)) rfl dX2_pass_11 ?_
  refine lv_iload_n hx hb dX2_pass_14 rfl (lv_at hl 1 rfl) ?_
  refine lv_iadd hx hb dX2_pass_15 ?_
  refine lv_sipush (v := 201) hx hb dX2_pass_16 (by decide) ?_
  refine lv_icmp_gt (tgt := 26) hx hb dX2_pass_19 (by decide) (fun c_19 => absurd c_19 (by rw [nI_add]; exact nI_nlt (a := 201) (b := t + w) hw (by decide))) (fun c_19 => ?_)
  refine lv_iconst (v := 1) hx hb dX2_pass_22 (by decide) ?_
  refine lv_goto (tgt := 27) hx hb dX2_pass_23 (by decide) ?_
  refine callSV0 (rest := []) F (c_X2_requireState_1 l G _) gX2_pass_X2_requireState rfl hdX2_requireState ⟨Nat.le_of_ble_eq_true rfl, Nat.le_of_ble_eq_true rfl⟩ hH rfl hl.1 (Nat.le_of_ble_eq_true rfl) dX2_pass_27 ⟨Nat.le_of_ble_eq_true rfl, Nat.le_of_ble_eq_true rfl⟩ rfl (fun u H locs hH => ?_)
  have hH : HH G A s (sW G q n nc t fl fd k wd wf wa cd cf) H locs := hH
  refine lv_iconst (v := 0) hx hb dX2_pass_30 (by decide) ?_
  refine lv_istore_n (lv' := [(2, .int 0), (0, .ref (q 0)), (1, .int (nI w))]) hx hb dX2_pass_31 rfl hl (by decide) rfl (fun ls hl => ?_)
  refine lv_iconst (v := 0) hx hb dX2_pass_32 (by decide) ?_
  refine lv_istore_n (lv' := [(3, .int 0), (2, .int 0), (0, .ref (q 0)), (1, .int (nI w))]) hx hb dX2_pass_33 rfl hl (by decide) rfl (fun ls hl => ?_)
  have loop : ∀ (n9 : Nat) (i : Nat) (hc9 : i + n9 = w)  (H : Heap) (locs : List Loc) (ls : Array Slot), HH G A s (sW G q n nc (t + i) fl fd k wd ((passWS fl t n wf wa i).1) ((passWS fl t n wf wa i).2) cd cf) H locs → lv_has ls 4 [(3, .int (nI i)), (2, .int (passWT fl t n wf wa i)), (0, .ref (q 0)), (1, .int (nI w))] → W p l e ({ frames := 4, cells := 0, slots := 0, locals := 93 } : Room) s m [.ref (q 0), .int (nI w)].toArray below meth c H locs 0 0 (EnI G A below s [.ref (q 0), .int (nI w)].toArray ({ frames := 4, cells := 0, slots := 0, locals := 93 } : Room) (fun u => sW G q n nc (t + w) fl fd k wd (passWS fl t n wf wa w).1 (passWS fl t n wf wa w).2 cd cf) (passWT fl t n wf wa w)) (F0 m 34 ls []) := by
    intro n9
    induction n9 with
    | zero =>
      intro i hc9  H locs ls hH hl
      refine lv_iload_n hx hb dX2_pass_34 rfl (lv_at hl 0 rfl) ?_
      refine lv_iload_n hx hb dX2_pass_35 rfl (lv_at hl 3 rfl) ?_
      refine lv_icmp_ge (tgt := 62) hx hb dX2_pass_36 (by decide) (fun c_36 => ?_) (fun c_36 => absurd (nI_le (by omega) (by omega)) c_36)
      refine lv_iload_n hx hb dX2_pass_62 rfl (lv_at hl 1 rfl) ?_
      exact retI F hr rfl (fun _ => 0) (by rw [show w = i by omega]; exact hH) (by rw [show i = w by omega]) (Nat.le_of_ble_eq_true rfl) (Nat.le_of_ble_eq_true rfl) dX2_pass_63
    | succ n9 ih =>
      intro i hc9  H locs ls hH hl
      refine lv_iload_n hx hb dX2_pass_34 rfl (lv_at hl 0 rfl) ?_
      refine lv_iload_n hx hb dX2_pass_35 rfl (lv_at hl 3 rfl) ?_
      refine lv_icmp_ge (tgt := 62) hx hb dX2_pass_36 (by decide) (fun c_36 => absurd c_36 (nI_ge (by omega) (by omega))) (fun c_36 => ?_)
      refine lv_iload_n hx hb dX2_pass_39 rfl (lv_at hl 1 rfl) ?_
      refine lv_aload_n hx hb dX2_pass_40 rfl (lv_at hl 2 rfl) ?_
      refine callVI0 (rest := [.int (passWT fl t n wf wa i)]) F (c_X2_payCurrentWeek l G q n nc (t + i) fl fd k wd (passWS fl t n wf wa i).1 (passWS fl t n wf wa i).2 cd cf hn (by omega)) gX2_pass_X2_payCurrentWeek rfl hdX2_payCurrentWeek ⟨Nat.le_of_ble_eq_true rfl, Nat.le_of_ble_eq_true rfl⟩ hH ⟨0, 2, _, _, rfl, rfl, rfl⟩ rfl hl.1 (Nat.le_of_ble_eq_true rfl) dX2_pass_41 ⟨Nat.le_of_ble_eq_true rfl, Nat.le_of_ble_eq_true rfl⟩ rfl (fun u H locs hH => ?_)
      have hH : HH G A s (sW G q n nc (t + i) fl fd k wd ((payWS fl (t + i) (passWS fl t n wf wa i).1 (passWS fl t n wf wa i).2 n).1) ((payWS fl (t + i) (passWS fl t n wf wa i).1 (passWS fl t n wf wa i).2 n).2) cd cf) H locs := hH
      refine lv_iadd hx hb dX2_pass_44 ?_
      refine lv_istore_n (lv' := [(2, .int ((passWT fl t n wf wa i) + (payWT fl (t + i) (passWS fl t n wf wa i).1 (passWS fl t n wf wa i).2 n))), (3, .int (nI i)), (0, .ref (q 0)), (1, .int (nI w))]) hx hb dX2_pass_45 rfl hl (by decide) rfl (fun ls hl => ?_)
      refine lv_aload_n hx hb dX2_pass_46 rfl (lv_at hl 2 rfl) ?_
      refine lv_dup hx hb dX2_pass_47 rfl ?_
      refine rget (C := RX2) (T := TX2) (N := 8) (ref := RX2) F in_X2_pass_X2 hH 0 rfl rfl 5 (by decide) (by decide +kernel) (fun _ h9 => h9) (v := .int (nI (t + i))) rfl dX2_pass_48 ?_
      refine lv_iconst (v := 1) hx hb dX2_pass_51 (by decide) ?_
      refine lv_iadd hx hb dX2_pass_52 ?_
      refine rput (C := RX2) (T := TX2) (N := 8) (ref := RX2) F in_X2_pass_X2 tyX2 tyX2_ok nmX2 hH 0 rfl rfl 5 (by decide) (by decide +kernel) (fun _ h9 => h9) rfl (v := .int ((nI (t + i)) + 1)) rfl rfl (Nat.le_of_ble_eq_true rfl) dX2_pass_53 (fun H locs hH => ?_)
      have hH : HH G A s (sW G q n nc ((t + i) + 1) fl fd k wd ((payWS fl (t + i) (passWS fl t n wf wa i).1 (passWS fl t n wf wa i).2 n).1) ((payWS fl (t + i) (passWS fl t n wf wa i).1 (passWS fl t n wf wa i).2 n).2) cd cf) H locs := (by unfold sW; rw [← nI_1 (t + i)]; exact hH)
      refine lv_iinc (v := (nI (i + 1))) (lv' := [(3, .int (nI (i + 1))), (2, .int ((passWT fl t n wf wa i) + (payWT fl (t + i) (passWS fl t n wf wa i).1 (passWS fl t n wf wa i).2 n))), (0, .ref (q 0)), (1, .int (nI w))]) hx hb dX2_pass_56 hl (k := 1) rfl (nI_1 i) (by decide) rfl (fun ls hl => ?_)
      refine lv_goto (tgt := 34) hx hb dX2_pass_59 (by decide) ?_
      exact ih (i + 1) (by omega) _ _ _ hH (lv_sub hl [0, 1, 2, 3] (rfl))
  exact loop w 0 (by omega) _ _ _ hH (lv_sub hl [0, 1, 2, 3] (rfl))

set_option maxHeartbeats 4000000 in
set_option maxRecDepth 100000 in
theorem c_X2_pass_3 (l : Launch) (hst : l.stackTraces = false) (G : Gx) (q : Nat → Nat) (n nc t : Nat) (fl fd : Int32) (k : Nat → Int32) (wd : Nat → Nat → Nat) (wf : Nat → Nat → Int32) (wa : Nat → Nat → Nat → Int32) (cd : Nat → Nat) (cf : Nat → Nat → Int32) (ht : t ≤ 201) (w : Nat) (hw1 : 1 ≤ w) (hw2 : w ≤ 60) (hw : 201 < t + w) : MX l yX2_pass wsX2_pass ({ frames := 7, cells := 1, slots := 6, locals := 110 } : Room) [.ref (q 0), .int (nI w)] G (sW G q n nc t fl fd k wd wf wa cd cf) "java/lang/IllegalStateException" := by
  refine ofMX (cc := cX2_pass) (maxL := 4) (ret := (some .int)) (by decide) rfl (Nat.le_of_ble_eq_true rfl) (fun p e s m below meth c A ls F htb hH hl => ?_)
  have F : Fx G p s m _ meth c cX2_pass 4 wsX2_pass RX2 A := F
  have hx := F.1.1
  have hb := F.1.2.1
  have hl : lv_has ls 4 [(0, .ref (q 0)), (1, .int (nI w))] := hl
  refine lv_iload_n hx hb dX2_pass_0 rfl (lv_at hl 1 rfl) ?_
  refine lv_iconst (v := 1) hx hb dX2_pass_1 (by decide) ?_
  refine lv_bipush (v := 60) hx hb dX2_pass_2 (by decide) ?_
  refine callSI0 (rest := []) F (c_X2_isWithin_1 l G _ (nI w) 1 60 (nI_le (a := 1) (b := w) hw1 (by omega)) (nI_le (a := w) (b := 60) hw2 (by decide))) gX2_pass_X2_isWithin rfl hdX2_isWithin ⟨Nat.le_of_ble_eq_true rfl, Nat.le_of_ble_eq_true rfl⟩ hH rfl hl.1 (Nat.le_of_ble_eq_true rfl) dX2_pass_4 ⟨Nat.le_of_ble_eq_true rfl, Nat.le_of_ble_eq_true rfl⟩ rfl (fun u H locs hH => ?_)
  have hH : HH G A s (sW G q n nc t fl fd k wd wf wa cd cf) H locs := hH
  refine callSV0 (rest := []) F (c_X2_requireArgument_1 l G _) gX2_pass_X2_requireArgument rfl hdX2_requireArgument ⟨Nat.le_of_ble_eq_true rfl, Nat.le_of_ble_eq_true rfl⟩ hH rfl hl.1 (Nat.le_of_ble_eq_true rfl) dX2_pass_7 ⟨Nat.le_of_ble_eq_true rfl, Nat.le_of_ble_eq_true rfl⟩ rfl (fun u H locs hH => ?_)
  have hH : HH G A s (sW G q n nc t fl fd k wd wf wa cd cf) H locs := hH
  refine lv_aload_n hx hb dX2_pass_10 rfl (lv_at hl 0 rfl) ?_
  refine rget (C := RX2) (T := TX2) (N := 8) (ref := RX2) F in_X2_pass_X2 hH 0 rfl rfl 5 (by decide) (by decide +kernel) (fun _ h9 => h9) (v := .int (nI t)) rfl dX2_pass_11 ?_
  refine lv_iload_n hx hb dX2_pass_14 rfl (lv_at hl 1 rfl) ?_
  refine lv_iadd hx hb dX2_pass_15 ?_
  refine lv_sipush (v := 201) hx hb dX2_pass_16 (by decide) ?_
  refine lv_icmp_gt (tgt := 26) hx hb dX2_pass_19 (by decide) (fun c_19 => ?_) (fun c_19 => absurd (by rw [nI_add]; exact nI_lt (a := 201) (b := t + w) hw (by omega)) c_19)
  refine lv_iconst (v := 0) hx hb dX2_pass_26 (by decide) ?_
  exact callSX0 (rest := []) F (c_X2_requireState_0 l hst G _) gX2_pass_X2_requireState rfl hdX2_requireState ⟨Nat.le_of_ble_eq_true rfl, Nat.le_of_ble_eq_true rfl⟩ hH rfl hl.1 (Nat.le_of_ble_eq_true rfl) dX2_pass_27 ⟨Nat.le_of_ble_eq_true rfl, Nat.le_of_ble_eq_true rfl⟩ rfl htb (Nat.le_of_ble_eq_true rfl) (Nat.le_of_ble_eq_true rfl)

set_option maxHeartbeats 4000000 in
set_option maxRecDepth 100000 in
theorem c_X2_pass_2 (l : Launch) (hst : l.stackTraces = false) (G : Gx) (q : Nat → Nat) (n nc t : Nat) (fl fd : Int32) (k : Nat → Int32) (wd : Nat → Nat → Nat) (wf : Nat → Nat → Int32) (wa : Nat → Nat → Nat → Int32) (cd : Nat → Nat) (cf : Nat → Nat → Int32) (v : Int32) (h : v < 1 ∨ 60 < v) : MX l yX2_pass wsX2_pass ({ frames := 7, cells := 1, slots := 6, locals := 110 } : Room) [.ref (q 0), .int v] G (sW G q n nc t fl fd k wd wf wa cd cf) "java/lang/IllegalArgumentException" := by
  refine ofMX (cc := cX2_pass) (maxL := 4) (ret := (some .int)) (by decide) rfl (Nat.le_of_ble_eq_true rfl) (fun p e s m below meth c A ls F htb hH hl => ?_)
  have F : Fx G p s m _ meth c cX2_pass 4 wsX2_pass RX2 A := F
  have hx := F.1.1
  have hb := F.1.2.1
  have hl : lv_has ls 4 [(0, .ref (q 0)), (1, .int v)] := hl
  refine lv_iload_n hx hb dX2_pass_0 rfl (lv_at hl 1 rfl) ?_
  refine lv_iconst (v := 1) hx hb dX2_pass_1 (by decide) ?_
  refine lv_bipush (v := 60) hx hb dX2_pass_2 (by decide) ?_
  refine callSI0 (rest := []) F (c_X2_isWithin_0 l G _ v 1 60 h) gX2_pass_X2_isWithin rfl hdX2_isWithin ⟨Nat.le_of_ble_eq_true rfl, Nat.le_of_ble_eq_true rfl⟩ hH rfl hl.1 (Nat.le_of_ble_eq_true rfl) dX2_pass_4 ⟨Nat.le_of_ble_eq_true rfl, Nat.le_of_ble_eq_true rfl⟩ rfl (fun u H locs hH => ?_)
  have hH : HH G A s (sW G q n nc t fl fd k wd wf wa cd cf) H locs := hH
  exact callSX0 (rest := []) F (c_X2_requireArgument_0 l hst G _) gX2_pass_X2_requireArgument rfl hdX2_requireArgument ⟨Nat.le_of_ble_eq_true rfl, Nat.le_of_ble_eq_true rfl⟩ hH rfl hl.1 (Nat.le_of_ble_eq_true rfl) dX2_pass_7 ⟨Nat.le_of_ble_eq_true rfl, Nat.le_of_ble_eq_true rfl⟩ rfl htb (Nat.le_of_ble_eq_true rfl) (Nat.le_of_ble_eq_true rfl)

set_option maxHeartbeats 4000000 in
set_option maxRecDepth 100000 in
theorem c_X2_check_1 (l : Launch) (G : Gx) (q : Nat → Nat) (n nc t : Nat) (fl fd : Int32) (k : Nat → Int32) (wd : Nat → Nat → Nat) (wf : Nat → Nat → Int32) (wa : Nat → Nat → Nat → Int32) (cd : Nat → Nat) (cf : Nat → Nat → Int32) (hn : n ≤ 8) (ht : t ≤ 201) (j : Nat) (hj : j < t) (hk : k j = 0) : MI l yX2_check wsX2_check ({ frames := 2, cells := 0, slots := 0, locals := 43 } : Room) [.ref (q 0), .int (nI j)] G (sW G q n nc t fl fd k wd wf wa cd cf) (fun u => sW G q n nc t fl (ckD wa j fd n) (upd k j 1) wd (ckF wf wa j n) wa cd cf) (ckC wa j n) := by
  refine ofMI (cc := cX2_check) (maxL := 7) (ret := (some .int)) (by decide) rfl (Nat.le_of_ble_eq_true rfl) (fun p e s m below meth c A ls F hr hnm hH hl => ?_)
  have F : Fx G p s m _ meth c cX2_check 7 wsX2_check RX2 A := F
  have hx := F.1.1
  have hb := F.1.2.1
  have hl : lv_has ls 7 [(0, .ref (q 0)), (1, .int (nI j))] := hl
  refine lv_aload_n hx hb dX2_check_0 rfl (lv_at hl 0 rfl) ?_
  refine lv_iload_n hx hb dX2_check_1 rfl (lv_at hl 1 rfl) ?_
  refine callVI0 (rest := []) F (c_X2_hasPassed_1 l G q n nc t fl fd k wd wf wa cd cf (by omega) j hj) gX2_check_X2_hasPassed rfl hdX2_hasPassed ⟨Nat.le_of_ble_eq_true rfl, Nat.le_of_ble_eq_true rfl⟩ hH ⟨0, 2, _, _, rfl, rfl, rfl⟩ rfl hl.1 (Nat.le_of_ble_eq_true rfl) dX2_check_2 ⟨Nat.le_of_ble_eq_true rfl, Nat.le_of_ble_eq_true rfl⟩ rfl (fun u H locs hH => ?_)
  have hH : HH G A s (sW G q n nc t fl fd k wd wf wa cd cf) H locs := hH
  refine callSV0 (rest := []) F (c_X2_requireArgument_1 l G _) gX2_check_X2_requireArgument rfl hdX2_requireArgument ⟨Nat.le_of_ble_eq_true rfl, Nat.le_of_ble_eq_true rfl⟩ hH rfl hl.1 (Nat.le_of_ble_eq_true rfl) dX2_check_5 ⟨Nat.le_of_ble_eq_true rfl, Nat.le_of_ble_eq_true rfl⟩ rfl (fun u H locs hH => ?_)
  have hH : HH G A s (sW G q n nc t fl fd k wd wf wa cd cf) H locs := hH
  refine lv_aload_n hx hb dX2_check_8 rfl (lv_at hl 0 rfl) ?_
  refine rget (C := RX2) (T := TX2) (N := 8) (ref := RX2) F in_X2_check_X2 hH 0 rfl rfl 2 (by decide) (by decide +kernel) (fun _ h9 => h9) (v := .ref (q 3)) rfl dX2_check_9 ?_
  refine lv_iload_n hx hb dX2_check_12 rfl (lv_at hl 1 rfl) ?_
  refine rzald F hH 3 (n := 201) (f := k) rfl j rfl (by omega) (by decide) dX2_check_13 ?_
  refine lv_if_ne (tgt := 21) hx hb dX2_check_14 (by decide) (fun c_14 => absurd hk c_14) (fun c_14 => ?_)
  refine lv_iconst (v := 1) hx hb dX2_check_17 (by decide) ?_
  refine lv_goto (tgt := 22) hx hb dX2_check_18 (by decide) ?_
  refine callSV0 (rest := []) F (c_X2_requireState_1 l G _) gX2_check_X2_requireState rfl hdX2_requireState ⟨Nat.le_of_ble_eq_true rfl, Nat.le_of_ble_eq_true rfl⟩ hH rfl hl.1 (Nat.le_of_ble_eq_true rfl) dX2_check_22 ⟨Nat.le_of_ble_eq_true rfl, Nat.le_of_ble_eq_true rfl⟩ rfl (fun u H locs hH => ?_)
  have hH : HH G A s (sW G q n nc t fl fd k wd wf wa cd cf) H locs := hH
  refine lv_aload_n hx hb dX2_check_25 rfl (lv_at hl 0 rfl) ?_
  refine rget (C := RX2) (T := TX2) (N := 8) (ref := RX2) F in_X2_check_X2 hH 0 rfl rfl 2 (by decide) (by decide +kernel) (fun _ h9 => h9) (v := .ref (q 3)) rfl dX2_check_26 ?_
  refine lv_iload_n hx hb dX2_check_29 rfl (lv_at hl 1 rfl) ?_
  refine lv_iconst (v := 1) hx hb dX2_check_30 (by decide) ?_
  refine rzast F hH 3 (n := 201) (f := k) rfl j rfl (by omega) (by decide) rfl dX2_check_31 (fun H locs hH => ?_)
  have hH : HH G A s (sW G q n nc t fl fd (upd k j 1) wd wf wa cd cf) H locs := hH
  refine lv_iconst (v := 0) hx hb dX2_check_32 (by decide) ?_
  refine lv_istore_n (lv' := [(2, .int 0), (0, .ref (q 0)), (1, .int (nI j))]) hx hb dX2_check_33 rfl hl (by decide) rfl (fun ls hl => ?_)
  refine lv_aload_n hx hb dX2_check_34 rfl (lv_at hl 1 rfl) ?_
  refine rget (C := RX2) (T := TX2) (N := 8) (ref := RX2) F in_X2_check_X2 hH 0 rfl rfl 0 (by decide) (by decide +kernel) (fun _ h9 => h9) (v := .ref (q 1)) rfl dX2_check_35 ?_
  refine lv_astore_n (lv' := [(3, .ref (q 1)), (2, .int 0), (0, .ref (q 0)), (1, .int (nI j))]) hx hb dX2_check_38 rfl hl (by decide) rfl (fun ls hl => ?_)
  refine lv_aload_n hx hb dX2_check_39 rfl (lv_at hl 0 rfl) ?_
  refine ralen F hH 1 2 rfl rfl (v := nI 8) rfl dX2_check_40 ?_
  refine lv_istore (lv' := [(4, .int (nI 8)), (3, .ref (q 1)), (2, .int 0), (0, .ref (q 0)), (1, .int (nI j))]) hx hb dX2_check_41 hl (by decide) rfl (fun ls hl => ?_)
  refine lv_iconst (v := 0) hx hb dX2_check_43 (by decide) ?_
  refine lv_istore (lv' := [(5, .int 0), (4, .int (nI 8)), (3, .ref (q 1)), (2, .int 0), (0, .ref (q 0)), (1, .int (nI j))]) hx hb dX2_check_44 hl (by decide) rfl (fun ls hl => ?_)
  have loop : ∀ (n9 : Nat) (i : Nat) (z : Nat) (hc9 : i + n9 = 8) (hz : (z = i ∧ i ≤ n) ∨ (z = n ∧ n ≤ i)) (H : Heap) (locs : List Loc) (ls : Array Slot), HH G A s (sW G q n nc t fl (ckD wa j fd z) (upd k j 1) wd (ckF wf wa j z) wa cd cf) H locs → lv_has ls 7 [(5, .int (nI i)), (2, .int (ckC wa j z)), (3, .ref (q 1)), (4, .int (nI 8)), (0, .ref (q 0)), (1, .int (nI j))] → W p l e ({ frames := 2, cells := 0, slots := 0, locals := 43 } : Room) s m [.ref (q 0), .int (nI j)].toArray below meth c H locs 0 0 (EnI G A below s [.ref (q 0), .int (nI j)].toArray ({ frames := 2, cells := 0, slots := 0, locals := 43 } : Room) (fun u => sW G q n nc t fl (ckD wa j fd n) (upd k j 1) wd (ckF wf wa j n) wa cd cf) (ckC wa j n)) (F0 m 46 ls []) := by
    intro n9
    induction n9 with
    | zero =>
      intro i z hc9 hz H locs ls hH hl
      refine lv_iload hx hb dX2_check_46 (lv_at hl 0 rfl) ?_
      refine lv_iload hx hb dX2_check_48 (lv_at hl 3 rfl) ?_
      refine lv_icmp_ge (tgt := 89) hx hb dX2_check_50 (by decide) (fun c_50 => ?_) (fun c_50 => absurd (nI_le (by omega) (by omega)) c_50)
      refine lv_iload_n hx hb dX2_check_89 rfl (lv_at hl 1 rfl) ?_
      exact retI F hr rfl (fun _ => 0) (by have e9 : z = n := (by omega); subst e9; exact hH) (by rw [show z = n by omega]) (Nat.le_of_ble_eq_true rfl) (Nat.le_of_ble_eq_true rfl) dX2_check_90
    | succ n9 ih =>
      intro i z hc9 hz H locs ls hH hl
      refine lv_iload hx hb dX2_check_46 (lv_at hl 0 rfl) ?_
      refine lv_iload hx hb dX2_check_48 (lv_at hl 3 rfl) ?_
      refine lv_icmp_ge (tgt := 89) hx hb dX2_check_50 (by decide) (fun c_50 => absurd c_50 (nI_ge (by omega) (by omega))) (fun c_50 => ?_)
      by_cases hin : i < n
      · have hzi : z = i := by omega
        have hzn : z < n := by omega
        refine lv_aload_n hx hb dX2_check_53 rfl (lv_at hl 2 rfl) ?_
        refine lv_iload hx hb dX2_check_54 (lv_at hl 0 rfl) ?_
        refine raald F hH 1 2 rfl rfl i rfl (by omega) (by decide) (v := .ref (wd z 0)) (by rw [hzi]; exact rfT_in hin) dX2_check_56 ?_
        refine lv_astore (lv' := [(6, .ref (wd z 0)), (5, .int (nI i)), (2, .int (ckC wa j z)), (3, .ref (q 1)), (4, .int (nI 8)), (0, .ref (q 0)), (1, .int (nI j))]) hx hb dX2_check_57 hl (by decide) rfl (fun ls hl => ?_)
        refine lv_aload hx hb dX2_check_59 (lv_at hl 0 rfl) ?_
        refine lv_ifnull hx hb dX2_check_61 ?_
        refine lv_aload hx hb dX2_check_64 (lv_at hl 0 rfl) ?_
        refine lv_iload_n hx hb dX2_check_66 rfl (lv_at hl 6 rfl) ?_
        obtain ⟨a9, b9, -, h91, h92⟩ := sW_mid (G := G) (q := q) (n := n) (m := nc) (t := t) (fl := fl) (fd := (ckD wa j fd z)) (k := (upd k j 1)) (wd := wd) (wf := (ckF wf wa j z)) (wa := wa) (cd := cd) (cf := cf) hzn
        refine callVI (rest := []) F (c_X1_hasWorkedTooMuch l G (wd z) (ckF wf wa j z z) (wa z) j (by omega)) gX2_check_X1_hasWorkedTooMuch rfl hdX1_hasWorkedTooMuch ⟨Nat.le_of_ble_eq_true rfl, Nat.le_of_ble_eq_true rfl⟩ a9 b9 hH h91 ⟨0, 1, _, _, rfl, rfl, rfl⟩ rfl hl.1 (Nat.le_of_ble_eq_true rfl) dX2_check_67 ⟨Nat.le_of_ble_eq_true rfl, Nat.le_of_ble_eq_true rfl⟩ rfl (fun u H locs hH => ?_)
        have hH : HH G A s (sW G q n nc t fl (ckD wa j fd z) (upd k j 1) wd (ckF wf wa j z) wa cd cf) H locs := by rw [h91]; exact hH
        by_cases hb9 : muchB (wa z 2 j) (wa z 6 j) (wa z 5 j) = 0
        · refine lv_if_eq (tgt := 83) hx hb dX2_check_70 (by decide) (fun c_70 => ?_) (fun c_70 => absurd hb9 c_70)
          refine lv_iinc (v := (nI (i + 1))) (lv' := [(5, .int (nI (i + 1))), (6, .ref (wd z 0)), (2, .int (ckC wa j z)), (3, .ref (q 1)), (4, .int (nI 8)), (0, .ref (q 0)), (1, .int (nI j))]) hx hb dX2_check_83 hl (k := 1) rfl (nI_1 i) (by decide) rfl (fun ls hl => ?_)
          refine lv_goto (tgt := 46) hx hb dX2_check_86 (by decide) ?_
          exact ih (i + 1) (z + 1) (by omega) (by omega) _ _ _ (by rw [(ck_0 (wf := wf) (fd := fd) hb9).1, (ck_0 (wf := wf) (fd := fd) hb9).2.1]; exact hH) (lv_sub hl [0, 2, 3, 4, 5, 6] (by rw [(ck_0 (wf := wf) (fd := fd) hb9).2.2]; rfl))
        · refine lv_if_eq (tgt := 83) hx hb dX2_check_70 (by decide) (fun c_70 => absurd c_70 hb9) (fun c_70 => ?_)
          by_cases hm : wa z 7 j = 0
          · refine lv_aload_n hx hb dX2_check_73 rfl (lv_at hl 5 rfl) ?_
            refine lv_aload hx hb dX2_check_74 (lv_at hl 0 rfl) ?_
            refine lv_iload_n hx hb dX2_check_76 rfl (lv_at hl 6 rfl) ?_
            refine callVV0 (rest := []) F (c_X2_chargeBack_n l G q n nc t fl (ckD wa j fd z) (upd k j 1) wd (ckF wf wa j z) wa cd cf hn z hzn j (by omega) hm) gX2_check_X2_chargeBack rfl hdX2_chargeBack ⟨Nat.le_of_ble_eq_true rfl, Nat.le_of_ble_eq_true rfl⟩ hH ⟨0, 2, _, _, rfl, rfl, rfl⟩ rfl hl.1 (Nat.le_of_ble_eq_true rfl) dX2_check_77 ⟨Nat.le_of_ble_eq_true rfl, Nat.le_of_ble_eq_true rfl⟩ rfl (fun u H locs hH => ?_)
            have hH : HH G A s (sW G q n nc t fl (ckD wa j fd z + (wa z 5 j - wa z 5 j / 2)) (upd k j 1) wd (va_up (ckF wf wa j z) z (va_up (ckF wf wa j z z) 11 (ckF wf wa j z z 11 + wa z 5 j / 2))) wa cd cf) H locs := hH
            refine lv_iinc (v := ((ckC wa j z) + 1)) (lv' := [(2, .int ((ckC wa j z) + 1)), (6, .ref (wd z 0)), (5, .int (nI i)), (3, .ref (q 1)), (4, .int (nI 8)), (0, .ref (q 0)), (1, .int (nI j))]) hx hb dX2_check_80 hl (k := 2) rfl rfl (by decide) rfl (fun ls hl => ?_)
            refine lv_iinc (v := (nI (i + 1))) (lv' := [(5, .int (nI (i + 1))), (2, .int ((ckC wa j z) + 1)), (6, .ref (wd z 0)), (3, .ref (q 1)), (4, .int (nI 8)), (0, .ref (q 0)), (1, .int (nI j))]) hx hb dX2_check_83 hl (k := 2) rfl (nI_1 i) (by decide) rfl (fun ls hl => ?_)
            refine lv_goto (tgt := 46) hx hb dX2_check_86 (by decide) ?_
            exact ih (i + 1) (z + 1) (by omega) (by omega) _ _ _ (by rw [(ck_n (wf := wf) (fd := fd) hb9 hm).1, (ck_n (wf := wf) (fd := fd) hb9 hm).2.1]; exact hH) (lv_sub hl [0, 1, 3, 4, 5, 6] (by rw [(ck_n (wf := wf) (fd := fd) hb9 hm).2.2]; rfl))
          · refine lv_aload_n hx hb dX2_check_73 rfl (lv_at hl 5 rfl) ?_
            refine lv_aload hx hb dX2_check_74 (lv_at hl 0 rfl) ?_
            refine lv_iload_n hx hb dX2_check_76 rfl (lv_at hl 6 rfl) ?_
            refine callVV0 (rest := []) F (c_X2_chargeBack_m l G q n nc t fl (ckD wa j fd z) (upd k j 1) wd (ckF wf wa j z) wa cd cf hn z hzn j (by omega) hm) gX2_check_X2_chargeBack rfl hdX2_chargeBack ⟨Nat.le_of_ble_eq_true rfl, Nat.le_of_ble_eq_true rfl⟩ hH ⟨0, 2, _, _, rfl, rfl, rfl⟩ rfl hl.1 (Nat.le_of_ble_eq_true rfl) dX2_check_77 ⟨Nat.le_of_ble_eq_true rfl, Nat.le_of_ble_eq_true rfl⟩ rfl (fun u H locs hH => ?_)
            have hH : HH G A s (sW G q n nc t fl (ckD wa j fd z + (wa z 5 j + wa z 5 j * 10 / 100)) (upd k j 1) wd (ckF wf wa j z) wa cd cf) H locs := hH
            refine lv_iinc (v := ((ckC wa j z) + 1)) (lv' := [(2, .int ((ckC wa j z) + 1)), (6, .ref (wd z 0)), (5, .int (nI i)), (3, .ref (q 1)), (4, .int (nI 8)), (0, .ref (q 0)), (1, .int (nI j))]) hx hb dX2_check_80 hl (k := 2) rfl rfl (by decide) rfl (fun ls hl => ?_)
            refine lv_iinc (v := (nI (i + 1))) (lv' := [(5, .int (nI (i + 1))), (2, .int ((ckC wa j z) + 1)), (6, .ref (wd z 0)), (3, .ref (q 1)), (4, .int (nI 8)), (0, .ref (q 0)), (1, .int (nI j))]) hx hb dX2_check_83 hl (k := 2) rfl (nI_1 i) (by decide) rfl (fun ls hl => ?_)
            refine lv_goto (tgt := 46) hx hb dX2_check_86 (by decide) ?_
            exact ih (i + 1) (z + 1) (by omega) (by omega) _ _ _ (by rw [(ck_m (wf := wf) (fd := fd) hb9 hm).1, (ck_m (wf := wf) (fd := fd) hb9 hm).2.1]; exact hH) (lv_sub hl [0, 1, 3, 4, 5, 6] (by rw [(ck_m (wf := wf) (fd := fd) hb9 hm).2.2]; rfl))
      · refine lv_aload_n hx hb dX2_check_53 rfl (lv_at hl 2 rfl) ?_
        refine lv_iload hx hb dX2_check_54 (lv_at hl 0 rfl) ?_
        refine raald F hH 1 2 rfl rfl i rfl (by omega) (by decide) (v := .null) (rfT_out hin) dX2_check_56 ?_
        refine lv_astoreN (lv' := [(6, .null), (5, .int (nI i)), (2, .int (ckC wa j z)), (3, .ref (q 1)), (4, .int (nI 8)), (0, .ref (q 0)), (1, .int (nI j))]) hx hb dX2_check_57 hl (by decide) rfl (fun ls hl => ?_)
        refine lv_aloadN hx hb dX2_check_59 (lv_at hl 0 rfl) ?_
        refine lv_ifnullN (tgt := 83) hx hb dX2_check_61 (by decide) ?_
        refine lv_iinc (v := (nI (i + 1))) (lv' := [(5, .int (nI (i + 1))), (6, .null), (2, .int (ckC wa j z)), (3, .ref (q 1)), (4, .int (nI 8)), (0, .ref (q 0)), (1, .int (nI j))]) hx hb dX2_check_83 hl (k := 1) rfl (nI_1 i) (by decide) rfl (fun ls hl => ?_)
        refine lv_goto (tgt := 46) hx hb dX2_check_86 (by decide) ?_
        exact ih (i + 1) z (by omega) (by omega) _ _ _ hH (lv_sub hl [0, 2, 3, 4, 5, 6] (rfl))
  exact loop 8 0 0 (by omega) (by omega) _ _ _ hH (lv_sub hl [0, 3, 2, 1, 4, 5] (rfl))

set_option maxHeartbeats 4000000 in
set_option maxRecDepth 100000 in
theorem c_X2_check_3 (l : Launch) (hst : l.stackTraces = false) (G : Gx) (q : Nat → Nat) (n nc t : Nat) (fl fd : Int32) (k : Nat → Int32) (wd : Nat → Nat → Nat) (wf : Nat → Nat → Int32) (wa : Nat → Nat → Nat → Int32) (cd : Nat → Nat) (cf : Nat → Nat → Int32) (ht : t ≤ 201) (j : Nat) (hj : j < t) (hk : ¬ k j = 0) : MX l yX2_check wsX2_check ({ frames := 7, cells := 1, slots := 6, locals := 110 } : Room) [.ref (q 0), .int (nI j)] G (sW G q n nc t fl fd k wd wf wa cd cf) "java/lang/IllegalStateException" := by
  refine ofMX (cc := cX2_check) (maxL := 7) (ret := (some .int)) (by decide) rfl (Nat.le_of_ble_eq_true rfl) (fun p e s m below meth c A ls F htb hH hl => ?_)
  have F : Fx G p s m _ meth c cX2_check 7 wsX2_check RX2 A := F
  have hx := F.1.1
  have hb := F.1.2.1
  have hl : lv_has ls 7 [(0, .ref (q 0)), (1, .int (nI j))] := hl
  refine lv_aload_n hx hb dX2_check_0 rfl (lv_at hl 0 rfl) ?_
  refine lv_iload_n hx hb dX2_check_1 rfl (lv_at hl 1 rfl) ?_
  refine callVI0 (rest := []) F (c_X2_hasPassed_1 l G q n nc t fl fd k wd wf wa cd cf (by omega) j hj) gX2_check_X2_hasPassed rfl hdX2_hasPassed ⟨Nat.le_of_ble_eq_true rfl, Nat.le_of_ble_eq_true rfl⟩ hH ⟨0, 2, _, _, rfl, rfl, rfl⟩ rfl hl.1 (Nat.le_of_ble_eq_true rfl) dX2_check_2 ⟨Nat.le_of_ble_eq_true rfl, Nat.le_of_ble_eq_true rfl⟩ rfl (fun u H locs hH => ?_)
  have hH : HH G A s (sW G q n nc t fl fd k wd wf wa cd cf) H locs := hH
  refine callSV0 (rest := []) F (c_X2_requireArgument_1 l G _) gX2_check_X2_requireArgument rfl hdX2_requireArgument ⟨Nat.le_of_ble_eq_true rfl, Nat.le_of_ble_eq_true rfl⟩ hH rfl hl.1 (Nat.le_of_ble_eq_true rfl) dX2_check_5 ⟨Nat.le_of_ble_eq_true rfl, Nat.le_of_ble_eq_true rfl⟩ rfl (fun u H locs hH => ?_)
  have hH : HH G A s (sW G q n nc t fl fd k wd wf wa cd cf) H locs := hH
  refine lv_aload_n hx hb dX2_check_8 rfl (lv_at hl 0 rfl) ?_
  refine rget (C := RX2) (T := TX2) (N := 8) (ref := RX2) F in_X2_check_X2 hH 0 rfl rfl 2 (by decide) (by decide +kernel) (fun _ h9 => h9) (v := .ref (q 3)) rfl dX2_check_9 ?_
  refine lv_iload_n hx hb dX2_check_12 rfl (lv_at hl 1 rfl) ?_
  refine rzald F hH 3 (n := 201) (f := k) rfl j rfl (by omega) (by decide) dX2_check_13 ?_
  refine lv_if_ne (tgt := 21) hx hb dX2_check_14 (by decide) (fun c_14 => ?_) (fun c_14 => absurd c_14 hk)
  refine lv_iconst (v := 0) hx hb dX2_check_21 (by decide) ?_
  exact callSX0 (rest := []) F (c_X2_requireState_0 l hst G _) gX2_check_X2_requireState rfl hdX2_requireState ⟨Nat.le_of_ble_eq_true rfl, Nat.le_of_ble_eq_true rfl⟩ hH rfl hl.1 (Nat.le_of_ble_eq_true rfl) dX2_check_22 ⟨Nat.le_of_ble_eq_true rfl, Nat.le_of_ble_eq_true rfl⟩ rfl htb (Nat.le_of_ble_eq_true rfl) (Nat.le_of_ble_eq_true rfl)

set_option maxHeartbeats 4000000 in
set_option maxRecDepth 100000 in
theorem c_X2_check_2 (l : Launch) (hst : l.stackTraces = false) (G : Gx) (q : Nat → Nat) (n nc t : Nat) (fl fd : Int32) (k : Nat → Int32) (wd : Nat → Nat → Nat) (wf : Nat → Nat → Int32) (wa : Nat → Nat → Nat → Int32) (cd : Nat → Nat) (cf : Nat → Nat → Int32) (ht : t ≤ 201) (w : Int32) (h : w < 0 ∨ nI t ≤ w) : MX l yX2_check wsX2_check ({ frames := 7, cells := 1, slots := 6, locals := 110 } : Room) [.ref (q 0), .int w] G (sW G q n nc t fl fd k wd wf wa cd cf) "java/lang/IllegalArgumentException" := by
  refine ofMX (cc := cX2_check) (maxL := 7) (ret := (some .int)) (by decide) rfl (Nat.le_of_ble_eq_true rfl) (fun p e s m below meth c A ls F htb hH hl => ?_)
  have F : Fx G p s m _ meth c cX2_check 7 wsX2_check RX2 A := F
  have hx := F.1.1
  have hb := F.1.2.1
  have hl : lv_has ls 7 [(0, .ref (q 0)), (1, .int w)] := hl
  refine lv_aload_n hx hb dX2_check_0 rfl (lv_at hl 0 rfl) ?_
  refine lv_iload_n hx hb dX2_check_1 rfl (lv_at hl 1 rfl) ?_
  refine callVI0 (rest := []) F (c_X2_hasPassed_0 l G q n nc t fl fd k wd wf wa cd cf (by omega) w h) gX2_check_X2_hasPassed rfl hdX2_hasPassed ⟨Nat.le_of_ble_eq_true rfl, Nat.le_of_ble_eq_true rfl⟩ hH ⟨0, 2, _, _, rfl, rfl, rfl⟩ rfl hl.1 (Nat.le_of_ble_eq_true rfl) dX2_check_2 ⟨Nat.le_of_ble_eq_true rfl, Nat.le_of_ble_eq_true rfl⟩ rfl (fun u H locs hH => ?_)
  have hH : HH G A s (sW G q n nc t fl fd k wd wf wa cd cf) H locs := hH
  exact callSX0 (rest := []) F (c_X2_requireArgument_0 l hst G _) gX2_check_X2_requireArgument rfl hdX2_requireArgument ⟨Nat.le_of_ble_eq_true rfl, Nat.le_of_ble_eq_true rfl⟩ hH rfl hl.1 (Nat.le_of_ble_eq_true rfl) dX2_check_5 ⟨Nat.le_of_ble_eq_true rfl, Nat.le_of_ble_eq_true rfl⟩ rfl htb (Nat.le_of_ble_eq_true rfl) (Nat.le_of_ble_eq_true rfl)

