set_option maxHeartbeats 4000000 in
set_option maxRecDepth 100000 in
theorem c_X2_cut_1 (l : Launch) (G : Gx) (q : Nat → Nat) (n nc t : Nat) (fl fd : Int32) (k : Nat → Int32) (wd : Nat → Nat → Nat) (wf : Nat → Nat → Int32) (wa : Nat → Nat → Nat → Int32) (cd : Nat → Nat) (cf : Nat → Nat → Int32) (hn : n ≤ 8) (i : Nat) (hi : i < n) (j : Nat) (hj : j ≤ 200) : MI l yX2_cut wsX2_cut ({ frames := 2, cells := 0, slots := 0, locals := 44 } : Room) [.ref (q 0), .int (nI i), .int (nI j)] G (sW G q n nc t fl fd k wd wf wa cd cf) (fun u => sW G q n nc t fl fd k wd wf wa cd cf) (wa i 2 j) := by
  refine ofMI (cc := cX2_cut) (maxL := 4) (ret := (some .int)) (by decide) rfl (Nat.le_of_ble_eq_true rfl) (fun p e s m below meth c A ls F hr hnm hH hl => ?_)
  have F : Fx G p s m _ meth c cX2_cut 4 wsX2_cut RX2 A := F
  have hx := F.1.1
  have hb := F.1.2.1
  have hl : lv_has ls 4 [(0, .ref (q 0)), (1, .int (nI i)), (2, .int (nI j))] := hl
  refine lv_aload_n hx hb dX2_cut_0 rfl (lv_at hl 0 rfl) ?_
  refine lv_iload_n hx hb dX2_cut_1 rfl (lv_at hl 1 rfl) ?_
  refine callVR0 (rest := []) F (c_X2_workerAt_1 l G q n nc t fl fd k wd wf wa cd cf hn i hi) gX2_cut_X2_workerAt rfl hdX2_workerAt ⟨Nat.le_of_ble_eq_true rfl, Nat.le_of_ble_eq_true rfl⟩ hH ⟨0, 2, _, _, rfl, rfl, rfl⟩ rfl hl.1 (Nat.le_of_ble_eq_true rfl) dX2_cut_2 ⟨Nat.le_of_ble_eq_true rfl, Nat.le_of_ble_eq_true rfl⟩ rfl (fun H locs hH => ?_)
  refine lv_astore_n (lv' := [(3, .ref (wd i 0)), (0, .ref (q 0)), (1, .int (nI i)), (2, .int (nI j))]) hx hb dX2_cut_5 rfl hl (by decide) rfl (fun ls hl => ?_)
  refine lv_iload_n hx hb dX2_cut_6 rfl (lv_at hl 3 rfl) ?_
  refine lv_iconst (v := 0) hx hb dX2_cut_7 (by decide) ?_
  refine lv_sipush (v := 200) hx hb dX2_cut_8 (by decide) ?_
  refine callSI0 (rest := []) F (c_X2_isWithin_1 l G _ (nI j) 0 200 (nI_pos' (by omega)) (nI_le (a := j) (b := 200) hj (by decide))) gX2_cut_X2_isWithin rfl hdX2_isWithin ⟨Nat.le_of_ble_eq_true rfl, Nat.le_of_ble_eq_true rfl⟩ hH rfl hl.1 (Nat.le_of_ble_eq_true rfl) dX2_cut_11 ⟨Nat.le_of_ble_eq_true rfl, Nat.le_of_ble_eq_true rfl⟩ rfl (fun u H locs hH => ?_)
  have hH : HH G A s (sW G q n nc t fl fd k wd wf wa cd cf) H locs := hH
  refine callSV0 (rest := []) F (c_X2_requireArgument_1 l G _) gX2_cut_X2_requireArgument rfl hdX2_requireArgument ⟨Nat.le_of_ble_eq_true rfl, Nat.le_of_ble_eq_true rfl⟩ hH rfl hl.1 (Nat.le_of_ble_eq_true rfl) dX2_cut_14 ⟨Nat.le_of_ble_eq_true rfl, Nat.le_of_ble_eq_true rfl⟩ rfl (fun u H locs hH => ?_)
  have hH : HH G A s (sW G q n nc t fl fd k wd wf wa cd cf) H locs := hH
  refine lv_aload_n hx hb dX2_cut_17 rfl (lv_at hl 0 rfl) ?_
  refine rgetN (C := RX1) (T := TX1) (N := 12) (ref := RX1) (host := RX2) F in_X2_cut_X1 hH (4 + 7 * i + 0) (sW_at hi (j := 0) rfl) rfl 2 (by decide) (by decide +kernel) (fun _ h9 => h9) (v := .ref (wd i 2)) rfl dX2_cut_18 ?_
  refine lv_iload_n hx hb dX2_cut_21 rfl (lv_at hl 3 rfl) ?_
  refine riald F hH (4 + 7 * i + 1) (n := 201) (f := wa i 2) (sW_at hi (j := 1) rfl) j rfl (by omega) (by decide) dX2_cut_22 ?_
  exact retI F hr rfl (fun _ => 0) hH rfl (Nat.le_of_ble_eq_true rfl) (Nat.le_of_ble_eq_true rfl) dX2_cut_23

set_option maxHeartbeats 4000000 in
set_option maxRecDepth 100000 in
theorem c_X2_cut_2 (l : Launch) (hst : l.stackTraces = false) (G : Gx) (q : Nat → Nat) (n nc t : Nat) (fl fd : Int32) (k : Nat → Int32) (wd : Nat → Nat → Nat) (wf : Nat → Nat → Int32) (wa : Nat → Nat → Nat → Int32) (cd : Nat → Nat) (cf : Nat → Nat → Int32) (hn : n ≤ 8) (i : Nat) (hi : i < n) (w : Int32) (h : w < 0 ∨ 200 < w) : MX l yX2_cut wsX2_cut ({ frames := 7, cells := 1, slots := 6, locals := 110 } : Room) [.ref (q 0), .int (nI i), .int w] G (sW G q n nc t fl fd k wd wf wa cd cf) "java/lang/IllegalArgumentException" := by
  refine ofMX (cc := cX2_cut) (maxL := 4) (ret := (some .int)) (by decide) rfl (Nat.le_of_ble_eq_true rfl) (fun p e s m below meth c A ls F htb hH hl => ?_)
  have F : Fx G p s m _ meth c cX2_cut 4 wsX2_cut RX2 A := F
  have hx := F.1.1
  have hb := F.1.2.1
  have hl : lv_has ls 4 [(0, .ref (q 0)), (1, .int (nI i)), (2, .int w)] := hl
  refine lv_aload_n hx hb dX2_cut_0 rfl (lv_at hl 0 rfl) ?_
  refine lv_iload_n hx hb dX2_cut_1 rfl (lv_at hl 1 rfl) ?_
  refine callVR0 (rest := []) F (c_X2_workerAt_1 l G q n nc t fl fd k wd wf wa cd cf hn i hi) gX2_cut_X2_workerAt rfl hdX2_workerAt ⟨Nat.le_of_ble_eq_true rfl, Nat.le_of_ble_eq_true rfl⟩ hH ⟨0, 2, _, _, rfl, rfl, rfl⟩ rfl hl.1 (Nat.le_of_ble_eq_true rfl) dX2_cut_2 ⟨Nat.le_of_ble_eq_true rfl, Nat.le_of_ble_eq_true rfl⟩ rfl (fun H locs hH => ?_)
  refine lv_astore_n (lv' := [(3, .ref (wd i 0)), (0, .ref (q 0)), (1, .int (nI i)), (2, .int w)]) hx hb dX2_cut_5 rfl hl (by decide) rfl (fun ls hl => ?_)
  refine lv_iload_n hx hb dX2_cut_6 rfl (lv_at hl 3 rfl) ?_
  refine lv_iconst (v := 0) hx hb dX2_cut_7 (by decide) ?_
  refine lv_sipush (v := 200) hx hb dX2_cut_8 (by decide) ?_
  refine callSI0 (rest := []) F (c_X2_isWithin_0 l G _ w 0 200 h) gX2_cut_X2_isWithin rfl hdX2_isWithin ⟨Nat.le_of_ble_eq_true rfl, Nat.le_of_ble_eq_true rfl⟩ hH rfl hl.1 (Nat.le_of_ble_eq_true rfl) dX2_cut_11 ⟨Nat.le_of_ble_eq_true rfl, Nat.le_of_ble_eq_true rfl⟩ rfl (fun u H locs hH => ?_)
  have hH : HH G A s (sW G q n nc t fl fd k wd wf wa cd cf) H locs := hH
  exact callSX0 (rest := []) F (c_X2_requireArgument_0 l hst G _) gX2_cut_X2_requireArgument rfl hdX2_requireArgument ⟨Nat.le_of_ble_eq_true rfl, Nat.le_of_ble_eq_true rfl⟩ hH rfl hl.1 (Nat.le_of_ble_eq_true rfl) dX2_cut_14 ⟨Nat.le_of_ble_eq_true rfl, Nat.le_of_ble_eq_true rfl⟩ rfl htb (Nat.le_of_ble_eq_true rfl) (Nat.le_of_ble_eq_true rfl)

set_option maxHeartbeats 4000000 in
set_option maxRecDepth 100000 in
theorem c_X2_cut_0 (l : Launch) (hst : l.stackTraces = false) (G : Gx) (q : Nat → Nat) (n nc t : Nat) (fl fd : Int32) (k : Nat → Int32) (wd : Nat → Nat → Nat) (wf : Nat → Nat → Int32) (wa : Nat → Nat → Nat → Int32) (cd : Nat → Nat) (cf : Nat → Nat → Int32) (hn : n ≤ 8) (v : Int32) (h : v < 0 ∨ nI n ≤ v) (w : Int32) : MX l yX2_cut wsX2_cut ({ frames := 7, cells := 1, slots := 6, locals := 112 } : Room) [.ref (q 0), .int v, .int w] G (sW G q n nc t fl fd k wd wf wa cd cf) "java/lang/IndexOutOfBoundsException" := by
  refine ofMX (cc := cX2_cut) (maxL := 4) (ret := (some .int)) (by decide) rfl (Nat.le_of_ble_eq_true rfl) (fun p e s m below meth c A ls F htb hH hl => ?_)
  have F : Fx G p s m _ meth c cX2_cut 4 wsX2_cut RX2 A := F
  have hx := F.1.1
  have hb := F.1.2.1
  have hl : lv_has ls 4 [(0, .ref (q 0)), (1, .int v), (2, .int w)] := hl
  refine lv_aload_n hx hb dX2_cut_0 rfl (lv_at hl 0 rfl) ?_
  refine lv_iload_n hx hb dX2_cut_1 rfl (lv_at hl 1 rfl) ?_
  exact callVX0 (rest := []) F (c_X2_workerAt_0 l hst G q n nc t fl fd k wd wf wa cd cf hn v h) gX2_cut_X2_workerAt rfl hdX2_workerAt ⟨Nat.le_of_ble_eq_true rfl, Nat.le_of_ble_eq_true rfl⟩ hH ⟨0, 2, _, _, rfl, rfl, rfl⟩ rfl hl.1 (Nat.le_of_ble_eq_true rfl) dX2_cut_2 ⟨Nat.le_of_ble_eq_true rfl, Nat.le_of_ble_eq_true rfl⟩ rfl htb (Nat.le_of_ble_eq_true rfl) (Nat.le_of_ble_eq_true rfl)

set_option maxHeartbeats 4000000 in
set_option maxRecDepth 100000 in
theorem c_X2_isFilled_1 (l : Launch) (G : Gx) (q : Nat → Nat) (n nc t : Nat) (fl fd : Int32) (k : Nat → Int32) (wd : Nat → Nat → Nat) (wf : Nat → Nat → Int32) (wa : Nat → Nat → Nat → Int32) (cd : Nat → Nat) (cf : Nat → Nat → Int32) (hn : n ≤ 8) (i : Nat) (hi : i < n) (j : Nat) (hj : j ≤ 200) : MI l yX2_isFilled wsX2_isFilled ({ frames := 2, cells := 0, slots := 0, locals := 44 } : Room) [.ref (q 0), .int (nI i), .int (nI j)] G (sW G q n nc t fl fd k wd wf wa cd cf) (fun u => sW G q n nc t fl fd k wd wf wa cd cf) (fillB (wa i 3 j) (wa i 2 j)) := by
  refine ofMI (cc := cX2_isFilled) (maxL := 4) (ret := (some .boolean)) (by decide) rfl (Nat.le_of_ble_eq_true rfl) (fun p e s m below meth c A ls F hr hnm hH hl => ?_)
  have F : Fx G p s m _ meth c cX2_isFilled 4 wsX2_isFilled RX2 A := F
  have hx := F.1.1
  have hb := F.1.2.1
  have hl : lv_has ls 4 [(0, .ref (q 0)), (1, .int (nI i)), (2, .int (nI j))] := hl
  refine lv_aload_n hx hb dX2_isFilled_0 rfl (lv_at hl 0 rfl) ?_
  refine lv_iload_n hx hb dX2_isFilled_1 rfl (lv_at hl 1 rfl) ?_
  refine callVR0 (rest := []) F (c_X2_workerAt_1 l G q n nc t fl fd k wd wf wa cd cf hn i hi) gX2_isFilled_X2_workerAt rfl hdX2_workerAt ⟨Nat.le_of_ble_eq_true rfl, Nat.le_of_ble_eq_true rfl⟩ hH ⟨0, 2, _, _, rfl, rfl, rfl⟩ rfl hl.1 (Nat.le_of_ble_eq_true rfl) dX2_isFilled_2 ⟨Nat.le_of_ble_eq_true rfl, Nat.le_of_ble_eq_true rfl⟩ rfl (fun H locs hH => ?_)
  refine lv_astore_n (lv' := [(3, .ref (wd i 0)), (0, .ref (q 0)), (1, .int (nI i)), (2, .int (nI j))]) hx hb dX2_isFilled_5 rfl hl (by decide) rfl (fun ls hl => ?_)
  refine lv_iload_n hx hb dX2_isFilled_6 rfl (lv_at hl 3 rfl) ?_
  refine lv_iconst (v := 0) hx hb dX2_isFilled_7 (by decide) ?_
  refine lv_sipush (v := 200) hx hb dX2_isFilled_8 (by decide) ?_
  refine callSI0 (rest := []) F (c_X2_isWithin_1 l G _ (nI j) 0 200 (nI_pos' (by omega)) (nI_le (a := j) (b := 200) hj (by decide))) gX2_isFilled_X2_isWithin rfl hdX2_isWithin ⟨Nat.le_of_ble_eq_true rfl, Nat.le_of_ble_eq_true rfl⟩ hH rfl hl.1 (Nat.le_of_ble_eq_true rfl) dX2_isFilled_11 ⟨Nat.le_of_ble_eq_true rfl, Nat.le_of_ble_eq_true rfl⟩ rfl (fun u H locs hH => ?_)
  have hH : HH G A s (sW G q n nc t fl fd k wd wf wa cd cf) H locs := hH
  refine callSV0 (rest := []) F (c_X2_requireArgument_1 l G _) gX2_isFilled_X2_requireArgument rfl hdX2_requireArgument ⟨Nat.le_of_ble_eq_true rfl, Nat.le_of_ble_eq_true rfl⟩ hH rfl hl.1 (Nat.le_of_ble_eq_true rfl) dX2_isFilled_14 ⟨Nat.le_of_ble_eq_true rfl, Nat.le_of_ble_eq_true rfl⟩ rfl (fun u H locs hH => ?_)
  have hH : HH G A s (sW G q n nc t fl fd k wd wf wa cd cf) H locs := hH
  refine lv_aload_n hx hb dX2_isFilled_17 rfl (lv_at hl 0 rfl) ?_
  refine lv_iload_n hx hb dX2_isFilled_18 rfl (lv_at hl 3 rfl) ?_
  obtain ⟨a9, b9, -, h91, h92⟩ := sW_mid (G := G) (q := q) (n := n) (m := nc) (t := t) (fl := fl) (fd := fd) (k := k) (wd := wd) (wf := wf) (wa := wa) (cd := cd) (cf := cf) hi
  refine callVI (rest := []) F (c_X1_hasFilled l G (wd i) (wf i) (wa i) j (by omega)) gX2_isFilled_X1_hasFilled rfl hdX1_hasFilled ⟨Nat.le_of_ble_eq_true rfl, Nat.le_of_ble_eq_true rfl⟩ a9 b9 hH h91 ⟨0, 1, _, _, rfl, rfl, rfl⟩ rfl hl.1 (Nat.le_of_ble_eq_true rfl) dX2_isFilled_19 ⟨Nat.le_of_ble_eq_true rfl, Nat.le_of_ble_eq_true rfl⟩ rfl (fun u H locs hH => ?_)
  have hH : HH G A s (sW G q n nc t fl fd k wd wf wa cd cf) H locs := by rw [h91]; exact hH
  exact retI F hr (fillB_nar _ _) (fun _ => 0) hH rfl (Nat.le_of_ble_eq_true rfl) (Nat.le_of_ble_eq_true rfl) dX2_isFilled_22

set_option maxHeartbeats 4000000 in
set_option maxRecDepth 100000 in
theorem c_X2_isFilled_2 (l : Launch) (hst : l.stackTraces = false) (G : Gx) (q : Nat → Nat) (n nc t : Nat) (fl fd : Int32) (k : Nat → Int32) (wd : Nat → Nat → Nat) (wf : Nat → Nat → Int32) (wa : Nat → Nat → Nat → Int32) (cd : Nat → Nat) (cf : Nat → Nat → Int32) (hn : n ≤ 8) (i : Nat) (hi : i < n) (w : Int32) (h : w < 0 ∨ 200 < w) : MX l yX2_isFilled wsX2_isFilled ({ frames := 7, cells := 1, slots := 6, locals := 110 } : Room) [.ref (q 0), .int (nI i), .int w] G (sW G q n nc t fl fd k wd wf wa cd cf) "java/lang/IllegalArgumentException" := by
  refine ofMX (cc := cX2_isFilled) (maxL := 4) (ret := (some .boolean)) (by decide) rfl (Nat.le_of_ble_eq_true rfl) (fun p e s m below meth c A ls F htb hH hl => ?_)
  have F : Fx G p s m _ meth c cX2_isFilled 4 wsX2_isFilled RX2 A := F
  have hx := F.1.1
  have hb := F.1.2.1
  have hl : lv_has ls 4 [(0, .ref (q 0)), (1, .int (nI i)), (2, .int w)] := hl
  refine lv_aload_n hx hb dX2_isFilled_0 rfl (lv_at hl 0 rfl) ?_
  refine lv_iload_n hx hb dX2_isFilled_1 rfl (lv_at hl 1 rfl) ?_
  refine callVR0 (rest := []) F (c_X2_workerAt_1 l G q n nc t fl fd k wd wf wa cd cf hn i hi) gX2_isFilled_X2_workerAt rfl hdX2_workerAt ⟨Nat.le_of_ble_eq_true rfl, Nat.le_of_ble_eq_true rfl⟩ hH ⟨0, 2, _, _, rfl, rfl, rfl⟩ rfl hl.1 (Nat.le_of_ble_eq_true rfl) dX2_isFilled_2 ⟨Nat.le_of_ble_eq_true rfl, Nat.le_of_ble_eq_true rfl⟩ rfl (fun H locs hH => ?_)
  refine lv_astore_n (lv' := [(3, .ref (wd i 0)), (0, .ref (q 0)), (1, .int (nI i)), (2, .int w)]) hx hb dX2_isFilled_5 rfl hl (by decide) rfl (fun ls hl => ?_)
  refine lv_iload_n hx hb dX2_isFilled_6 rfl (lv_at hl 3 rfl) ?_
  refine lv_iconst (v := 0) hx hb dX2_isFilled_7 (by decide) ?_
  refine lv_sipush (v := 200) hx hb dX2_isFilled_8 (by decide) ?_
  refine callSI0 (rest := []) F (c_X2_isWithin_0 l G _ w 0 200 h) gX2_isFilled_X2_isWithin rfl hdX2_isWithin ⟨Nat.le_of_ble_eq_true rfl, Nat.le_of_ble_eq_true rfl⟩ hH rfl hl.1 (Nat.le_of_ble_eq_true rfl) dX2_isFilled_11 ⟨Nat.le_of_ble_eq_true rfl, Nat.le_of_ble_eq_true rfl⟩ rfl (fun u H locs hH => ?_)
  have hH : HH G A s (sW G q n nc t fl fd k wd wf wa cd cf) H locs := hH
  exact callSX0 (rest := []) F (c_X2_requireArgument_0 l hst G _) gX2_isFilled_X2_requireArgument rfl hdX2_requireArgument ⟨Nat.le_of_ble_eq_true rfl, Nat.le_of_ble_eq_true rfl⟩ hH rfl hl.1 (Nat.le_of_ble_eq_true rfl) dX2_isFilled_14 ⟨Nat.le_of_ble_eq_true rfl, Nat.le_of_ble_eq_true rfl⟩ rfl htb (Nat.le_of_ble_eq_true rfl) (Nat.le_of_ble_eq_true rfl)

set_option maxHeartbeats 4000000 in
set_option maxRecDepth 100000 in
theorem c_X2_isFilled_0 (l : Launch) (hst : l.stackTraces = false) (G : Gx) (q : Nat → Nat) (n nc t : Nat) (fl fd : Int32) (k : Nat → Int32) (wd : Nat → Nat → Nat) (wf : Nat → Nat → Int32) (wa : Nat → Nat → Nat → Int32) (cd : Nat → Nat) (cf : Nat → Nat → Int32) (hn : n ≤ 8) (v : Int32) (h : v < 0 ∨ nI n ≤ v) (w : Int32) : MX l yX2_isFilled wsX2_isFilled ({ frames := 7, cells := 1, slots := 6, locals := 112 } : Room) [.ref (q 0), .int v, .int w] G (sW G q n nc t fl fd k wd wf wa cd cf) "java/lang/IndexOutOfBoundsException" := by
  refine ofMX (cc := cX2_isFilled) (maxL := 4) (ret := (some .boolean)) (by decide) rfl (Nat.le_of_ble_eq_true rfl) (fun p e s m below meth c A ls F htb hH hl => ?_)
  have F : Fx G p s m _ meth c cX2_isFilled 4 wsX2_isFilled RX2 A := F
  have hx := F.1.1
  have hb := F.1.2.1
  have hl : lv_has ls 4 [(0, .ref (q 0)), (1, .int v), (2, .int w)] := hl
  refine lv_aload_n hx hb dX2_isFilled_0 rfl (lv_at hl 0 rfl) ?_
  refine lv_iload_n hx hb dX2_isFilled_1 rfl (lv_at hl 1 rfl) ?_
  exact callVX0 (rest := []) F (c_X2_workerAt_0 l hst G q n nc t fl fd k wd wf wa cd cf hn v h) gX2_isFilled_X2_workerAt rfl hdX2_workerAt ⟨Nat.le_of_ble_eq_true rfl, Nat.le_of_ble_eq_true rfl⟩ hH ⟨0, 2, _, _, rfl, rfl, rfl⟩ rfl hl.1 (Nat.le_of_ble_eq_true rfl) dX2_isFilled_2 ⟨Nat.le_of_ble_eq_true rfl, Nat.le_of_ble_eq_true rfl⟩ rfl htb (Nat.le_of_ble_eq_true rfl) (Nat.le_of_ble_eq_true rfl)

set_option maxHeartbeats 4000000 in
set_option maxRecDepth 100000 in
theorem c_X2_paid_1 (l : Launch) (G : Gx) (q : Nat → Nat) (n nc t : Nat) (fl fd : Int32) (k : Nat → Int32) (wd : Nat → Nat → Nat) (wf : Nat → Nat → Int32) (wa : Nat → Nat → Nat → Int32) (cd : Nat → Nat) (cf : Nat → Nat → Int32) (hn : n ≤ 8) (i : Nat) (hi : i < n) (ht : t ≤ 201) (j : Nat) (hj : j < t) : MI l yX2_paid wsX2_paid ({ frames := 2, cells := 0, slots := 0, locals := 44 } : Room) [.ref (q 0), .int (nI i), .int (nI j)] G (sW G q n nc t fl fd k wd wf wa cd cf) (fun u => sW G q n nc t fl fd k wd wf wa cd cf) (wa i 4 j) := by
  refine ofMI (cc := cX2_paid) (maxL := 4) (ret := (some .int)) (by decide) rfl (Nat.le_of_ble_eq_true rfl) (fun p e s m below meth c A ls F hr hnm hH hl => ?_)
  have F : Fx G p s m _ meth c cX2_paid 4 wsX2_paid RX2 A := F
  have hx := F.1.1
  have hb := F.1.2.1
  have hl : lv_has ls 4 [(0, .ref (q 0)), (1, .int (nI i)), (2, .int (nI j))] := hl
  refine lv_aload_n hx hb dX2_paid_0 rfl (lv_at hl 0 rfl) ?_
  refine lv_iload_n hx hb dX2_paid_1 rfl (lv_at hl 1 rfl) ?_
  refine callVR0 (rest := []) F (c_X2_workerAt_1 l G q n nc t fl fd k wd wf wa cd cf hn i hi) gX2_paid_X2_workerAt rfl hdX2_workerAt ⟨Nat.le_of_ble_eq_true rfl, Nat.le_of_ble_eq_true rfl⟩ hH ⟨0, 2, _, _, rfl, rfl, rfl⟩ rfl hl.1 (Nat.le_of_ble_eq_true rfl) dX2_paid_2 ⟨Nat.le_of_ble_eq_true rfl, Nat.le_of_ble_eq_true rfl⟩ rfl (fun H locs hH => ?_)
  refine lv_astore_n (lv' := [(3, .ref (wd i 0)), (0, .ref (q 0)), (1, .int (nI i)), (2, .int (nI j))]) hx hb dX2_paid_5 rfl hl (by decide) rfl (fun ls hl => ?_)
  refine lv_aload_n hx hb dX2_paid_6 rfl (lv_at hl 1 rfl) ?_
  refine lv_iload_n hx hb dX2_paid_7 rfl (lv_at hl 3 rfl) ?_
  refine callVI0 (rest := []) F (c_X2_hasPassed_1 l G q n nc t fl fd k wd wf wa cd cf (by omega) j hj) gX2_paid_X2_hasPassed rfl hdX2_hasPassed ⟨Nat.le_of_ble_eq_true rfl, Nat.le_of_ble_eq_true rfl⟩ hH ⟨0, 2, _, _, rfl, rfl, rfl⟩ rfl hl.1 (Nat.le_of_ble_eq_true rfl) dX2_paid_8 ⟨Nat.le_of_ble_eq_true rfl, Nat.le_of_ble_eq_true rfl⟩ rfl (fun u H locs hH => ?_)
  have hH : HH G A s (sW G q n nc t fl fd k wd wf wa cd cf) H locs := hH
  refine callSV0 (rest := []) F (c_X2_requireArgument_1 l G _) gX2_paid_X2_requireArgument rfl hdX2_requireArgument ⟨Nat.le_of_ble_eq_true rfl, Nat.le_of_ble_eq_true rfl⟩ hH rfl hl.1 (Nat.le_of_ble_eq_true rfl) dX2_paid_11 ⟨Nat.le_of_ble_eq_true rfl, Nat.le_of_ble_eq_true rfl⟩ rfl (fun u H locs hH => ?_)
  have hH : HH G A s (sW G q n nc t fl fd k wd wf wa cd cf) H locs := hH
  refine lv_aload_n hx hb dX2_paid_14 rfl (lv_at hl 0 rfl) ?_
  refine rgetN (C := RX1) (T := TX1) (N := 12) (ref := RX1) (host := RX2) F in_X2_paid_X1 hH (4 + 7 * i + 0) (sW_at hi (j := 0) rfl) rfl 4 (by decide) (by decide +kernel) (fun _ h9 => h9) (v := .ref (wd i 4)) rfl dX2_paid_15 ?_
  refine lv_iload_n hx hb dX2_paid_18 rfl (lv_at hl 3 rfl) ?_
  refine riald F hH (4 + 7 * i + 3) (n := 201) (f := wa i 4) (sW_at hi (j := 3) rfl) j rfl (by omega) (by decide) dX2_paid_19 ?_
  exact retI F hr rfl (fun _ => 0) hH rfl (Nat.le_of_ble_eq_true rfl) (Nat.le_of_ble_eq_true rfl) dX2_paid_20

set_option maxHeartbeats 4000000 in
set_option maxRecDepth 100000 in
theorem c_X2_paid_2 (l : Launch) (hst : l.stackTraces = false) (G : Gx) (q : Nat → Nat) (n nc t : Nat) (fl fd : Int32) (k : Nat → Int32) (wd : Nat → Nat → Nat) (wf : Nat → Nat → Int32) (wa : Nat → Nat → Nat → Int32) (cd : Nat → Nat) (cf : Nat → Nat → Int32) (hn : n ≤ 8) (i : Nat) (hi : i < n) (ht : t ≤ 201) (w : Int32) (h : w < 0 ∨ nI t ≤ w) : MX l yX2_paid wsX2_paid ({ frames := 7, cells := 1, slots := 6, locals := 110 } : Room) [.ref (q 0), .int (nI i), .int w] G (sW G q n nc t fl fd k wd wf wa cd cf) "java/lang/IllegalArgumentException" := by
  refine ofMX (cc := cX2_paid) (maxL := 4) (ret := (some .int)) (by decide) rfl (Nat.le_of_ble_eq_true rfl) (fun p e s m below meth c A ls F htb hH hl => ?_)
  have F : Fx G p s m _ meth c cX2_paid 4 wsX2_paid RX2 A := F
  have hx := F.1.1
  have hb := F.1.2.1
  have hl : lv_has ls 4 [(0, .ref (q 0)), (1, .int (nI i)), (2, .int w)] := hl
  refine lv_aload_n hx hb dX2_paid_0 rfl (lv_at hl 0 rfl) ?_
  refine lv_iload_n hx hb dX2_paid_1 rfl (lv_at hl 1 rfl) ?_
  refine callVR0 (rest := []) F (c_X2_workerAt_1 l G q n nc t fl fd k wd wf wa cd cf hn i hi) gX2_paid_X2_workerAt rfl hdX2_workerAt ⟨Nat.le_of_ble_eq_true rfl, Nat.le_of_ble_eq_true rfl⟩ hH ⟨0, 2, _, _, rfl, rfl, rfl⟩ rfl hl.1 (Nat.le_of_ble_eq_true rfl) dX2_paid_2 ⟨Nat.le_of_ble_eq_true rfl, Nat.le_of_ble_eq_true rfl⟩ rfl (fun H locs hH => ?_)
  refine lv_astore_n (lv' := [(3, .ref (wd i 0)), (0, .ref (q 0)), (1, .int (nI i)), (2, .int w)]) hx hb dX2_paid_5 rfl hl (by decide) rfl (fun ls hl => ?_)
  refine lv_aload_n hx hb dX2_paid_6 rfl (lv_at hl 1 rfl) ?_
  refine lv_iload_n hx hb dX2_paid_7 rfl (lv_at hl 3 rfl) ?_
  refine callVI0 (rest := []) F (c_X2_hasPassed_0 l G q n nc t fl fd k wd wf wa cd cf (by omega) w h) gX2_paid_X2_hasPassed rfl hdX2_hasPassed ⟨Nat.le_of_ble_eq_true rfl, Nat.le_of_ble_eq_true rfl⟩ hH ⟨0, 2, _, _, rfl, rfl, rfl⟩ rfl hl.1 (Nat.le_of_ble_eq_true rfl) dX2_paid_8 ⟨Nat.le_of_ble_eq_true rfl, Nat.le_of_ble_eq_true rfl⟩ rfl (fun u H locs hH => ?_)
  have hH : HH G A s (sW G q n nc t fl fd k wd wf wa cd cf) H locs := hH
  exact callSX0 (rest := []) F (c_X2_requireArgument_0 l hst G _) gX2_paid_X2_requireArgument rfl hdX2_requireArgument ⟨Nat.le_of_ble_eq_true rfl, Nat.le_of_ble_eq_true rfl⟩ hH rfl hl.1 (Nat.le_of_ble_eq_true rfl) dX2_paid_11 ⟨Nat.le_of_ble_eq_true rfl, Nat.le_of_ble_eq_true rfl⟩ rfl htb (Nat.le_of_ble_eq_true rfl) (Nat.le_of_ble_eq_true rfl)

set_option maxHeartbeats 4000000 in
set_option maxRecDepth 100000 in
theorem c_X2_paid_0 (l : Launch) (hst : l.stackTraces = false) (G : Gx) (q : Nat → Nat) (n nc t : Nat) (fl fd : Int32) (k : Nat → Int32) (wd : Nat → Nat → Nat) (wf : Nat → Nat → Int32) (wa : Nat → Nat → Nat → Int32) (cd : Nat → Nat) (cf : Nat → Nat → Int32) (hn : n ≤ 8) (v : Int32) (h : v < 0 ∨ nI n ≤ v) (w : Int32) : MX l yX2_paid wsX2_paid ({ frames := 7, cells := 1, slots := 6, locals := 112 } : Room) [.ref (q 0), .int v, .int w] G (sW G q n nc t fl fd k wd wf wa cd cf) "java/lang/IndexOutOfBoundsException" := by
  refine ofMX (cc := cX2_paid) (maxL := 4) (ret := (some .int)) (by decide) rfl (Nat.le_of_ble_eq_true rfl) (fun p e s m below meth c A ls F htb hH hl => ?_)
  have F : Fx G p s m _ meth c cX2_paid 4 wsX2_paid RX2 A := F
  have hx := F.1.1
  have hb := F.1.2.1
  have hl : lv_has ls 4 [(0, .ref (q 0)), (1, .int v), (2, .int w)] := hl
  refine lv_aload_n hx hb dX2_paid_0 rfl (lv_at hl 0 rfl) ?_
  refine lv_iload_n hx hb dX2_paid_1 rfl (lv_at hl 1 rfl) ?_
  exact callVX0 (rest := []) F (c_X2_workerAt_0 l hst G q n nc t fl fd k wd wf wa cd cf hn v h) gX2_paid_X2_workerAt rfl hdX2_workerAt ⟨Nat.le_of_ble_eq_true rfl, Nat.le_of_ble_eq_true rfl⟩ hH ⟨0, 2, _, _, rfl, rfl, rfl⟩ rfl hl.1 (Nat.le_of_ble_eq_true rfl) dX2_paid_2 ⟨Nat.le_of_ble_eq_true rfl, Nat.le_of_ble_eq_true rfl⟩ rfl htb (Nat.le_of_ble_eq_true rfl) (Nat.le_of_ble_eq_true rfl)

set_option maxHeartbeats 4000000 in
set_option maxRecDepth 100000 in
theorem c_X2_madeUp_1 (l : Launch) (G : Gx) (q : Nat → Nat) (n nc t : Nat) (fl fd : Int32) (k : Nat → Int32) (wd : Nat → Nat → Nat) (wf : Nat → Nat → Int32) (wa : Nat → Nat → Nat → Int32) (cd : Nat → Nat) (cf : Nat → Nat → Int32) (hn : n ≤ 8) (i : Nat) (hi : i < n) (ht : t ≤ 201) (j : Nat) (hj : j < t) : MI l yX2_madeUp wsX2_madeUp ({ frames := 2, cells := 0, slots := 0, locals := 44 } : Room) [.ref (q 0), .int (nI i), .int (nI j)] G (sW G q n nc t fl fd k wd wf wa cd cf) (fun u => sW G q n nc t fl fd k wd wf wa cd cf) (wa i 5 j) := by
  refine ofMI (cc := cX2_madeUp) (maxL := 4) (ret := (some .int)) (by decide) rfl (Nat.le_of_ble_eq_true rfl) (fun p e s m below meth c A ls F hr hnm hH hl => ?_)
  have F : Fx G p s m _ meth c cX2_madeUp 4 wsX2_madeUp RX2 A := F
  have hx := F.1.1
  have hb := F.1.2.1
  have hl : lv_has ls 4 [(0, .ref (q 0)), (1, .int (nI i)), (2, .int (nI j))] := hl
  refine lv_aload_n hx hb dX2_madeUp_0 rfl (lv_at hl 0 rfl) ?_
  refine lv_iload_n hx hb dX2_madeUp_1 rfl (lv_at hl 1 rfl) ?_
  refine callVR0 (rest := []) F (c_X2_workerAt_1 l G q n nc t fl fd k wd wf wa cd cf hn i hi) gX2_madeUp_X2_workerAt rfl hdX2_workerAt ⟨Nat.le_of_ble_eq_true rfl, Nat.le_of_ble_eq_true rfl⟩ hH ⟨0, 2, _, _, rfl, rfl, rfl⟩ rfl hl.1 (Nat.le_of_ble_eq_true rfl) dX2_madeUp_2 ⟨Nat.le_of_ble_eq_true rfl, Nat.le_of_ble_eq_true rfl⟩ rfl (fun H locs hH => ?_)
  refine lv_astore_n (lv' := [(3, .ref (wd i 0)), (0, .ref (q 0)), (1, .int (nI i)), (2, .int (nI j))]) hx hb dX2_madeUp_5 rfl hl (by decide) rfl (fun ls hl => ?_)
  refine lv_aload_n hx hb dX2_madeUp_6 rfl (lv_at hl 1 rfl) ?_
  refine lv_iload_n hx hb dX2_madeUp_7 rfl (lv_at hl 3 rfl) ?_
  refine callVI0 (rest := []) F (c_X2_hasPassed_1 l G q n nc t fl fd k wd wf wa cd cf (by omega) j hj) gX2_madeUp_X2_hasPassed rfl hdX2_hasPassed ⟨Nat.le_of_ble_eq_true rfl, Nat.le_of_ble_eq_true rfl⟩ hH ⟨0, 2, _, _, rfl, rfl, rfl⟩ rfl hl.1 (Nat.le_of_ble_eq_true rfl) dX2_madeUp_8 ⟨Nat.le_of_ble_eq_true rfl, Nat.le_of_ble_eq_true rfl⟩ rfl (fun u H locs hH => ?_)
  have hH : HH G A s (sW G q n nc t fl fd k wd wf wa cd cf) H locs := hH
  refine callSV0 (rest := []) F (c_X2_requireArgument_1 l G _) gX2_madeUp_X2_requireArgument rfl hdX2_requireArgument ⟨Nat.le_of_ble_eq_true rfl, Nat.le_of_ble_eq_true rfl⟩ hH rfl hl.1 (Nat.le_of_ble_eq_true rfl) dX2_madeUp_11 ⟨Nat.le_of_ble_eq_true rfl, Nat.le_of_ble_eq_true rfl⟩ rfl (fun u H locs hH => ?_)
  have hH : HH G A s (sW G q n nc t fl fd k wd wf wa cd cf) H locs := hH
  refine lv_aload_n hx hb dX2_madeUp_14 rfl (lv_at hl 0 rfl) ?_
  refine rgetN (C := RX1) (T := TX1) (N := 12) (ref := RX1) (host := RX2) F in_X2_madeUp_X1 hH (4 + 7 * i + 0) (sW_at hi (j := 0) rfl) rfl 5 (by decide) (by decide +kernel) (fun _ h9 => h9) (v := .ref (wd i 5)) rfl dX2_madeUp_15 ?_
  refine lv_iload_n hx hb dX2_madeUp_18 rfl (lv_at hl 3 rfl) ?_
  refine riald F hH (4 + 7 * i + 4) (n := 201) (f := wa i 5) (sW_at hi (j := 4) rfl) j rfl (by omega) (by decide) dX2_madeUp_19 ?_
  exact retI F hr rfl (fun _ => 0) hH rfl (Nat.le_of_ble_eq_true rfl) (Nat.le_of_ble_eq_true rfl) dX2_madeUp_20

set_option maxHeartbeats 4000000 in
set_option maxRecDepth 100000 in
theorem c_X2_madeUp_2 (l : Launch) (hst : l.stackTraces = false) (G : Gx) (q : Nat → Nat) (n nc t : Nat) (fl fd : Int32) (k : Nat → Int32) (wd : Nat → Nat → Nat) (wf : Nat → Nat → Int32) (wa : Nat → Nat → Nat → Int32) (cd : Nat → Nat) (cf : Nat → Nat → Int32) (hn : n ≤ 8) (i : Nat) (hi : i < n) (ht : t ≤ 201) (w : Int32) (h : w < 0 ∨ nI t ≤ w) : MX l yX2_madeUp wsX2_madeUp ({ frames := 7, cells := 1, slots := 6, locals := 110 } : Room) [.ref (q 0), .int (nI i), .int w] G (sW G q n nc t fl fd k wd wf wa cd cf) "java/lang/IllegalArgumentException" := by
  refine ofMX (cc := cX2_madeUp) (maxL := 4) (ret := (some .int)) (by decide) rfl (Nat.le_of_ble_eq_true rfl) (fun p e s m below meth c A ls F htb hH hl => ?_)
  have F : Fx G p s m _ meth c cX2_madeUp 4 wsX2_madeUp RX2 A := F
  have hx := F.1.1
  have hb := F.1.2.1
  have hl : lv_has ls 4 [(0, .ref (q 0)), (1, .int (nI i)), (2, .int w)] := hl
  refine lv_aload_n hx hb dX2_madeUp_0 rfl (lv_at hl 0 rfl) ?_
  refine lv_iload_n hx hb dX2_madeUp_1 rfl (lv_at hl 1 rfl) ?_
  refine callVR0 (rest := []) F (c_X2_workerAt_1 l G q n nc t fl fd k wd wf wa cd cf hn i hi) gX2_madeUp_X2_workerAt rfl hdX2_workerAt ⟨Nat.le_of_ble_eq_true rfl, Nat.le_of_ble_eq_true rfl⟩ hH ⟨0, 2, _, _, rfl, rfl, rfl⟩ rfl hl.1 (Nat.le_of_ble_eq_true rfl) dX2_madeUp_2 ⟨Nat.le_of_ble_eq_true rfl, Nat.le_of_ble_eq_true rfl⟩ rfl (fun H locs hH => ?_)
  refine lv_astore_n (lv' := [(3, .ref (wd i 0)), (0, .ref (q 0)), (1, .int (nI i)), (2, .int w)]) hx hb dX2_madeUp_5 rfl hl (by decide) rfl (fun ls hl => ?_)
  refine lv_aload_n hx hb dX2_madeUp_6 rfl (lv_at hl 1 rfl) ?_
  refine lv_iload_n hx hb dX2_madeUp_7 rfl (lv_at hl 3 rfl) ?_
  refine callVI0 (rest := []) F (c_X2_hasPassed_0 l G q n nc t fl fd k wd wf wa cd cf (by omega) w h) gX2_madeUp_X2_hasPassed rfl hdX2_hasPassed ⟨Nat.le_of_ble_eq_true rfl, Nat.le_of_ble_eq_true rfl⟩ hH ⟨0, 2, _, _, rfl, rfl, rfl⟩ rfl hl.1 (Nat.le_of_ble_eq_true rfl) dX2_madeUp_8 ⟨Nat.le_of_ble_eq_true rfl, Nat.le_of_ble_eq_true rfl⟩ rfl (fun u H locs hH => ?_)
  have hH : HH G A s (sW G q n nc t fl fd k wd wf wa cd cf) H locs := hH
  exact callSX0 (rest := []) F (c_X2_requireArgument_0 l hst G _) gX2_madeUp_X2_requireArgument rfl hdX2_requireArgument ⟨Nat.le_of_ble_eq_true rfl, Nat.le_of_ble_eq_true rfl⟩ hH rfl hl.1 (Nat.le_of_ble_eq_true rfl) dX2_madeUp_11 ⟨Nat.le_of_ble_eq_true rfl, Nat.le_of_ble_eq_true rfl⟩ rfl htb (Nat.le_of_ble_eq_true rfl) (Nat.le_of_ble_eq_true rfl)

set_option maxHeartbeats 4000000 in
set_option maxRecDepth 100000 in
theorem c_X2_madeUp_0 (l : Launch) (hst : l.stackTraces = false) (G : Gx) (q : Nat → Nat) (n nc t : Nat) (fl fd : Int32) (k : Nat → Int32) (wd : Nat → Nat → Nat) (wf : Nat → Nat → Int32) (wa : Nat → Nat → Nat → Int32) (cd : Nat → Nat) (cf : Nat → Nat → Int32) (hn : n ≤ 8) (v : Int32) (h : v < 0 ∨ nI n ≤ v) (w : Int32) : MX l yX2_madeUp wsX2_madeUp ({ frames := 7, cells := 1, slots := 6, locals := 112 } : Room) [.ref (q 0), .int v, .int w] G (sW G q n nc t fl fd k wd wf wa cd cf) "java/lang/IndexOutOfBoundsException" := by
  refine ofMX (cc := cX2_madeUp) (maxL := 4) (ret := (some .int)) (by decide) rfl (Nat.le_of_ble_eq_true rfl) (fun p e s m below meth c A ls F htb hH hl => ?_)
  have F : Fx G p s m _ meth c cX2_madeUp 4 wsX2_madeUp RX2 A := F
  have hx := F.1.1
  have hb := F.1.2.1
  have hl : lv_has ls 4 [(0, .ref (q 0)), (1, .int v), (2, .int w)] := hl
  refine lv_aload_n hx hb dX2_madeUp_0 rfl (lv_at hl 0 rfl) ?_
  refine lv_iload_n hx hb dX2_madeUp_1 rfl (lv_at hl 1 rfl) ?_
  exact callVX0 (rest := []) F (c_X2_workerAt_0 l hst G q n nc t fl fd k wd wf wa cd cf hn v h) gX2_madeUp_X2_workerAt rfl hdX2_workerAt ⟨Nat.le_of_ble_eq_true rfl, Nat.le_of_ble_eq_true rfl⟩ hH ⟨0, 2, _, _, rfl, rfl, rfl⟩ rfl hl.1 (Nat.le_of_ble_eq_true rfl) dX2_madeUp_2 ⟨Nat.le_of_ble_eq_true rfl, Nat.le_of_ble_eq_true rfl⟩ rfl htb (Nat.le_of_ble_eq_true rfl) (Nat.le_of_ble_eq_true rfl)

set_option maxHeartbeats 4000000 in
set_option maxRecDepth 100000 in
theorem c_X2_cutWeeks_1 (l : Launch) (G : Gx) (q : Nat → Nat) (n nc t : Nat) (fl fd : Int32) (k : Nat → Int32) (wd : Nat → Nat → Nat) (wf : Nat → Nat → Int32) (wa : Nat → Nat → Nat → Int32) (cd : Nat → Nat) (cf : Nat → Nat → Int32) (hn : n ≤ 8) (i : Nat) (hi : i < n) : MI l yX2_cutWeeks wsX2_cutWeeks ({ frames := 2, cells := 0, slots := 0, locals := 44 } : Room) [.ref (q 0), .int (nI i)] G (sW G q n nc t fl fd k wd wf wa cd cf) (fun u => sW G q n nc t fl fd k wd wf wa cd cf) (wf i 9) := by
  refine ofMI (cc := cX2_cutWeeks) (maxL := 2) (ret := (some .int)) (by decide) rfl (Nat.le_of_ble_eq_true rfl) (fun p e s m below meth c A ls F hr hnm hH hl => ?_)
  have F : Fx G p s m _ meth c cX2_cutWeeks 2 wsX2_cutWeeks RX2 A := F
  have hx := F.1.1
  have hb := F.1.2.1
  have hl : lv_has ls 2 [(0, .ref (q 0)), (1, .int (nI i))] := hl
  refine lv_aload_n hx hb dX2_cutWeeks_0 rfl (lv_at hl 0 rfl) ?_
  refine lv_iload_n hx hb dX2_cutWeeks_1 rfl (lv_at hl 1 rfl) ?_
  refine callVR0 (rest := []) F (c_X2_workerAt_1 l G q n nc t fl fd k wd wf wa cd cf hn i hi) gX2_cutWeeks_X2_workerAt rfl hdX2_workerAt ⟨Nat.le_of_ble_eq_true rfl, Nat.le_of_ble_eq_true rfl⟩ hH ⟨0, 2, _, _, rfl, rfl, rfl⟩ rfl hl.1 (Nat.le_of_ble_eq_true rfl) dX2_cutWeeks_2 ⟨Nat.le_of_ble_eq_true rfl, Nat.le_of_ble_eq_true rfl⟩ rfl (fun H locs hH => ?_)
  refine rgetN (C := RX1) (T := TX1) (N := 12) (ref := RX1) (host := RX2) F in_X2_cutWeeks_X1 hH (4 + 7 * i + 0) (sW_at hi (j := 0) rfl) rfl 9 (by decide) (by decide +kernel) (fun _ h9 => h9) (v := .int (wf i 9)) rfl dX2_cutWeeks_5 ?_
  exact retI F hr rfl (fun _ => 0) hH rfl (Nat.le_of_ble_eq_true rfl) (Nat.le_of_ble_eq_true rfl) dX2_cutWeeks_8

set_option maxHeartbeats 4000000 in
set_option maxRecDepth 100000 in
theorem c_X2_cutWeeks_0 (l : Launch) (hst : l.stackTraces = false) (G : Gx) (q : Nat → Nat) (n nc t : Nat) (fl fd : Int32) (k : Nat → Int32) (wd : Nat → Nat → Nat) (wf : Nat → Nat → Int32) (wa : Nat → Nat → Nat → Int32) (cd : Nat → Nat) (cf : Nat → Nat → Int32) (hn : n ≤ 8) (v : Int32) (h : v < 0 ∨ nI n ≤ v) : MX l yX2_cutWeeks wsX2_cutWeeks ({ frames := 7, cells := 1, slots := 6, locals := 112 } : Room) [.ref (q 0), .int v] G (sW G q n nc t fl fd k wd wf wa cd cf) "java/lang/IndexOutOfBoundsException" := by
  refine ofMX (cc := cX2_cutWeeks) (maxL := 2) (ret := (some .int)) (by decide) rfl (Nat.le_of_ble_eq_true rfl) (fun p e s m below meth c A ls F htb hH hl => ?_)
  have F : Fx G p s m _ meth c cX2_cutWeeks 2 wsX2_cutWeeks RX2 A := F
  have hx := F.1.1
  have hb := F.1.2.1
  have hl : lv_has ls 2 [(0, .ref (q 0)), (1, .int v)] := hl
  refine lv_aload_n hx hb dX2_cutWeeks_0 rfl (lv_at hl 0 rfl) ?_
  refine lv_iload_n hx hb dX2_cutWeeks_1 rfl (lv_at hl 1 rfl) ?_
  exact callVX0 (rest := []) F (c_X2_workerAt_0 l hst G q n nc t fl fd k wd wf wa cd cf hn v h) gX2_cutWeeks_X2_workerAt rfl hdX2_workerAt ⟨Nat.le_of_ble_eq_true rfl, Nat.le_of_ble_eq_true rfl⟩ hH ⟨0, 2, _, _, rfl, rfl, rfl⟩ rfl hl.1 (Nat.le_of_ble_eq_true rfl) dX2_cutWeeks_2 ⟨Nat.le_of_ble_eq_true rfl, Nat.le_of_ble_eq_true rfl⟩ rfl htb (Nat.le_of_ble_eq_true rfl) (Nat.le_of_ble_eq_true rfl)

set_option maxHeartbeats 4000000 in
set_option maxRecDepth 100000 in
theorem c_X2_owes_1 (l : Launch) (G : Gx) (q : Nat → Nat) (n nc t : Nat) (fl fd : Int32) (k : Nat → Int32) (wd : Nat → Nat → Nat) (wf : Nat → Nat → Int32) (wa : Nat → Nat → Nat → Int32) (cd : Nat → Nat) (cf : Nat → Nat → Int32) (hn : n ≤ 8) (i : Nat) (hi : i < n) : MI l yX2_owes wsX2_owes ({ frames := 2, cells := 0, slots := 0, locals := 44 } : Room) [.ref (q 0), .int (nI i)] G (sW G q n nc t fl fd k wd wf wa cd cf) (fun u => sW G q n nc t fl fd k wd wf wa cd cf) (wf i 11) := by
  refine ofMI (cc := cX2_owes) (maxL := 2) (ret := (some .int)) (by decide) rfl (Nat.le_of_ble_eq_true rfl) (fun p e s m below meth c A ls F hr hnm hH hl => ?_)
  have F : Fx G p s m _ meth c cX2_owes 2 wsX2_owes RX2 A := F
  have hx := F.1.1
  have hb := F.1.2.1
  have hl : lv_has ls 2 [(0, .ref (q 0)), (1, .int (nI i))] := hl
  refine lv_aload_n hx hb dX2_owes_0 rfl (lv_at hl 0 rfl) ?_
  refine lv_iload_n hx hb dX2_owes_1 rfl (lv_at hl 1 rfl) ?_
  refine callVR0 (rest := []) F (c_X2_workerAt_1 l G q n nc t fl fd k wd wf wa cd cf hn i hi) gX2_owes_X2_workerAt rfl hdX2_workerAt ⟨Nat.le_of_ble_eq_true rfl, Nat.le_of_ble_eq_true rfl⟩ hH ⟨0, 2, _, _, rfl, rfl, rfl⟩ rfl hl.1 (Nat.le_of_ble_eq_true rfl) dX2_owes_2 ⟨Nat.le_of_ble_eq_true rfl, Nat.le_of_ble_eq_true rfl⟩ rfl (fun H locs hH => ?_)
  refine rgetN (C := RX1) (T := TX1) (N := 12) (ref := RX1) (host := RX2) F in_X2_owes_X1 hH (4 + 7 * i + 0) (sW_at hi (j := 0) rfl) rfl 11 (by decide) (by decide +kernel) (fun _ h9 => h9) (v := .int (wf i 11)) rfl dX2_owes_5 ?_
  exact retI F hr rfl (fun _ => 0) hH rfl (Nat.le_of_ble_eq_true rfl) (Nat.le_of_ble_eq_true rfl) dX2_owes_8

set_option maxHeartbeats 4000000 in
set_option maxRecDepth 100000 in
theorem c_X2_owes_0 (l : Launch) (hst : l.stackTraces = false) (G : Gx) (q : Nat → Nat) (n nc t : Nat) (fl fd : Int32) (k : Nat → Int32) (wd : Nat → Nat → Nat) (wf : Nat → Nat → Int32) (wa : Nat → Nat → Nat → Int32) (cd : Nat → Nat) (cf : Nat → Nat → Int32) (hn : n ≤ 8) (v : Int32) (h : v < 0 ∨ nI n ≤ v) : MX l yX2_owes wsX2_owes ({ frames := 7, cells := 1, slots := 6, locals := 112 } : Room) [.ref (q 0), .int v] G (sW G q n nc t fl fd k wd wf wa cd cf) "java/lang/IndexOutOfBoundsException" := by
  refine ofMX (cc := cX2_owes) (maxL := 2) (ret := (some .int)) (by decide) rfl (Nat.le_of_ble_eq_true rfl) (fun p e s m below meth c A ls F htb hH hl => ?_)
  have F : Fx G p s m _ meth c cX2_owes 2 wsX2_owes RX2 A := F
  have hx := F.1.1
  have hb := F.1.2.1
  have hl : lv_has ls 2 [(0, .ref (q 0)), (1, .int v)] := hl
  refine lv_aload_n hx hb dX2_owes_0 rfl (lv_at hl 0 rfl) ?_
  refine lv_iload_n hx hb dX2_owes_1 rfl (lv_at hl 1 rfl) ?_
  exact callVX0 (rest := []) F (c_X2_workerAt_0 l hst G q n nc t fl fd k wd wf wa cd cf hn v h) gX2_owes_X2_workerAt rfl hdX2_workerAt ⟨Nat.le_of_ble_eq_true rfl, Nat.le_of_ble_eq_true rfl⟩ hH ⟨0, 2, _, _, rfl, rfl, rfl⟩ rfl hl.1 (Nat.le_of_ble_eq_true rfl) dX2_owes_2 ⟨Nat.le_of_ble_eq_true rfl, Nat.le_of_ble_eq_true rfl⟩ rfl htb (Nat.le_of_ble_eq_true rfl) (Nat.le_of_ble_eq_true rfl)

set_option maxHeartbeats 4000000 in
set_option maxRecDepth 100000 in
theorem c_X2_net_1 (l : Launch) (G : Gx) (q : Nat → Nat) (n nc t : Nat) (fl fd : Int32) (k : Nat → Int32) (wd : Nat → Nat → Nat) (wf : Nat → Nat → Int32) (wa : Nat → Nat → Nat → Int32) (cd : Nat → Nat) (cf : Nat → Nat → Int32) (hn : n ≤ 8) (i : Nat) (hi : i < n) : MI l yX2_net wsX2_net ({ frames := 2, cells := 0, slots := 0, locals := 44 } : Room) [.ref (q 0), .int (nI i)] G (sW G q n nc t fl fd k wd wf wa cd cf) (fun u => sW G q n nc t fl fd k wd wf wa cd cf) (wf i 10 - wf i 11) := by
  refine ofMI (cc := cX2_net) (maxL := 3) (ret := (some .int)) (by decide) rfl (Nat.le_of_ble_eq_true rfl) (fun p e s m below meth c A ls F hr hnm hH hl => ?_)
  have F : Fx G p s m _ meth c cX2_net 3 wsX2_net RX2 A := F
  have hx := F.1.1
  have hb := F.1.2.1
  have hl : lv_has ls 3 [(0, .ref (q 0)), (1, .int (nI i))] := hl
  refine lv_aload_n hx hb dX2_net_0 rfl (lv_at hl 0 rfl) ?_
  refine lv_iload_n hx hb dX2_net_1 rfl (lv_at hl 1 rfl) ?_
  refine callVR0 (rest := []) F (c_X2_workerAt_1 l G q n nc t fl fd k wd wf wa cd cf hn i hi) gX2_net_X2_workerAt rfl hdX2_workerAt ⟨Nat.le_of_ble_eq_true rfl, Nat.le_of_ble_eq_true rfl⟩ hH ⟨0, 2, _, _, rfl, rfl, rfl⟩ rfl hl.1 (Nat.le_of_ble_eq_true rfl) dX2_net_2 ⟨Nat.le_of_ble_eq_true rfl, Nat.le_of_ble_eq_true rfl⟩ rfl (fun H locs hH => ?_)
  refine lv_astore_n (lv' := [(2, .ref (wd i 0)), (0, .ref (q 0)), (1, .int (nI i))]) hx hb dX2_net_5 rfl hl (by decide) rfl (fun ls hl => ?_)
  refine lv_aload_n hx hb dX2_net_6 rfl (lv_at hl 0 rfl) ?_
  refine rgetN (C := RX1) (T := TX1) (N := 12) (ref := RX1) (host := RX2) F in_X2_net_X1 hH (4 + 7 * i + 0) (sW_at hi (j := 0) rfl) rfl 10 (by decide) (by decide +kernel) (fun _ h9 => h9) (v := .int (wf i 10)) rfl dX2_net_7 ?_
  refine lv_aload_n hx hb dX2_net_10 rfl (lv_at hl 0 rfl) ?_
  refine rgetN (C := RX1) (T := TX1) (N := 12) (ref := RX1) (host := RX2) F in_X2_net_X1 hH (4 + 7 * i + 0) (sW_at hi (j := 0) rfl) rfl 11 (by decide) (by decide +kernel) (fun _ h9 => h9) (v := .int (wf i 11)) rfl dX2_net_11 ?_
  refine lv_isub hx hb dX2_net_14 ?_
  exact retI F hr rfl (fun _ => 0) hH rfl (Nat.le_of_ble_eq_true rfl) (Nat.le_of_ble_eq_true rfl) dX2_net_15

set_option maxHeartbeats 4000000 in
set_option maxRecDepth 100000 in
theorem c_X2_net_0 (l : Launch) (hst : l.stackTraces = false) (G : Gx) (q : Nat → Nat) (n nc t : Nat) (fl fd : Int32) (k : Nat → Int32) (wd : Nat → Nat → Nat) (wf : Nat → Nat → Int32) (wa : Nat → Nat → Nat → Int32) (cd : Nat → Nat) (cf : Nat → Nat → Int32) (hn : n ≤ 8) (v : Int32) (h : v < 0 ∨ nI n ≤ v) : MX l yX2_net wsX2_net ({ frames := 7, cells := 1, slots := 6, locals := 112 } : Room) [.ref (q 0), .int v] G (sW G q n nc t fl fd k wd wf wa cd cf) "java/lang/IndexOutOfBoundsException" := by
  refine ofMX (cc := cX2_net) (maxL := 3) (ret := (some .int)) (by decide) rfl (Nat.le_of_ble_eq_true rfl) (fun p e s m below meth c A ls F htb hH hl => ?_)
  have F : Fx G p s m _ meth c cX2_net 3 wsX2_net RX2 A := F
  have hx := F.1.1
  have hb := F.1.2.1
  have hl : lv_has ls 3 [(0, .ref (q 0)), (1, .int v)] := hl
  refine lv_aload_n hx hb dX2_net_0 rfl (lv_at hl 0 rfl) ?_
  refine lv_iload_n hx hb dX2_net_1 rfl (lv_at hl 1 rfl) ?_
  exact callVX0 (rest := []) F (c_X2_workerAt_0 l hst G q n nc t fl fd k wd wf wa cd cf hn v h) gX2_net_X2_workerAt rfl hdX2_workerAt ⟨Nat.le_of_ble_eq_true rfl, Nat.le_of_ble_eq_true rfl⟩ hH ⟨0, 2, _, _, rfl, rfl, rfl⟩ rfl hl.1 (Nat.le_of_ble_eq_true rfl) dX2_net_2 ⟨Nat.le_of_ble_eq_true rfl, Nat.le_of_ble_eq_true rfl⟩ rfl htb (Nat.le_of_ble_eq_true rfl) (Nat.le_of_ble_eq_true rfl)

set_option maxHeartbeats 4000000 in
set_option maxRecDepth 100000 in
theorem c_X2_setFloor_1 (l : Launch) (G : Gx) (q : Nat → Nat) (n nc t : Nat) (fl fd : Int32) (k : Nat → Int32) (wd : Nat → Nat → Nat) (wf : Nat → Nat → Int32) (wa : Nat → Nat → Nat → Int32) (cd : Nat → Nat) (cf : Nat → Nat → Int32) (v : Int32) (h1 : 0 ≤ v) (h2 : v ≤ 100) : MI l yX2_setFloor wsX2_setFloor ({ frames := 1, cells := 0, slots := 0, locals := 22 } : Room) [.ref (q 0), .int v] G (sW G q n nc t fl fd k wd wf wa cd cf) (fun u => sW G q n nc t v fd k wd wf wa cd cf) fl := by
  refine ofMI (cc := cX2_setFloor) (maxL := 3) (ret := (some .int)) (by decide) rfl (Nat.le_of_ble_eq_true rfl) (fun p e s m below meth c A ls F hr hnm hH hl => ?_)
  have F : Fx G p s m _ meth c cX2_setFloor 3 wsX2_setFloor RX2 A := F
  have hx := F.1.1
  have hb := F.1.2.1
  have hl : lv_has ls 3 [(0, .ref (q 0)), (1, .int v)] := hl
  refine lv_iload_n hx hb dX2_setFloor_0 rfl (lv_at hl 1 rfl) ?_
  refine lv_iconst (v := 0) hx hb dX2_setFloor_1 (by decide) ?_
  refine lv_bipush (v := 100) hx hb dX2_setFloor_2 (by decide) ?_
  refine callSI0 (rest := []) F (c_X2_isWithin_1 l G _ v 0 100 h1 h2) gX2_setFloor_X2_isWithin rfl hdX2_isWithin ⟨Nat.le_of_ble_eq_true rfl, Nat.le_of_ble_eq_true rfl⟩ hH rfl hl.1 (Nat.le_of_ble_eq_true rfl) dX2_setFloor_4 ⟨Nat.le_of_ble_eq_true rfl, Nat.le_of_ble_eq_true rfl⟩ rfl (fun u H locs hH => ?_)
  have hH : HH G A s (sW G q n nc t fl fd k wd wf wa cd cf) H locs := hH
  refine callSV0 (rest := []) F (c_X2_requireArgument_1 l G _) gX2_setFloor_X2_requireArgument rfl hdX2_requireArgument ⟨Nat.le_of_ble_eq_true rfl, Nat.le_of_ble_eq_true rfl⟩ hH rfl hl.1 (Nat.le_of_ble_eq_true rfl) dX2_setFloor_7 ⟨Nat.le_of_ble_eq_true rfl, Nat.le_of_ble_eq_true rfl⟩ rfl (fun u H locs hH => ?_)
  have hH : HH G A s (sW G q n nc t fl fd k wd wf wa cd cf) H locs := hH
  refine lv_aload_n hx hb dX2_setFloor_10 rfl (lv_at hl 0 rfl) ?_
  refine rget (C := RX2) (T := TX2) (N := 8) (ref := RX2) F in_X2_setFloor_X2 hH 0 rfl rfl 6 (by decide) (by decide +kernel) (fun _ h9 => h9) (v := .int fl) rfl dX2_setFloor_11 ?_
  refine lv_istore_n (lv' := [(2, .int fl), (0, .ref (q 0)), (1, .int v)]) hx hb dX2_setFloor_14 rfl hl (by decide) rfl (fun ls hl => ?_)
  refine lv_aload_n hx hb dX2_setFloor_15 rfl (lv_at hl 1 rfl) ?_
  refine lv_iload_n hx hb dX2_setFloor_16 rfl (lv_at hl 2 rfl) ?_
  refine rput (C := RX2) (T := TX2) (N := 8) (ref := RX2) F in_X2_setFloor_X2 tyX2 tyX2_ok nmX2 hH 0 rfl rfl 6 (by decide) (by decide +kernel) (fun _ h9 => h9) rfl (v := .int v) rfl rfl (Nat.le_of_ble_eq_true rfl) dX2_setFloor_17 (fun H locs hH => ?_)
  have hH : HH G A s (sW G q n nc t v fd k wd wf wa cd cf) H locs := hH
  refine lv_iload_n hx hb dX2_setFloor_20 rfl (lv_at hl 0 rfl) ?_
  exact retI F hr rfl (fun _ => 0) hH rfl (Nat.le_of_ble_eq_true rfl) (Nat.le_of_ble_eq_true rfl) dX2_setFloor_21

set_option maxHeartbeats 4000000 in
set_option maxRecDepth 100000 in
theorem c_X2_setFloor_2 (l : Launch) (hst : l.stackTraces = false) (G : Gx) (q : Nat → Nat) (n nc t : Nat) (fl fd : Int32) (k : Nat → Int32) (wd : Nat → Nat → Nat) (wf : Nat → Nat → Int32) (wa : Nat → Nat → Nat → Int32) (cd : Nat → Nat) (cf : Nat → Nat → Int32) (v : Int32) (h : v < 0 ∨ 100 < v) : MX l yX2_setFloor wsX2_setFloor ({ frames := 7, cells := 1, slots := 6, locals := 110 } : Room) [.ref (q 0), .int v] G (sW G q n nc t fl fd k wd wf wa cd cf) "java/lang/IllegalArgumentException" := by
  refine ofMX (cc := cX2_setFloor) (maxL := 3) (ret := (some .int)) (by decide) rfl (Nat.le_of_ble_eq_true rfl) (fun p e s m below meth c A ls F htb hH hl => ?_)
  have F : Fx G p s m _ meth c cX2_setFloor 3 wsX2_setFloor RX2 A := F
  have hx := F.1.1
  have hb := F.1.2.1
  have hl : lv_has ls 3 [(0, .ref (q 0)), (1, .int v)] := hl
  refine lv_iload_n hx hb dX2_setFloor_0 rfl (lv_at hl 1 rfl) ?_
  refine lv_iconst (v := 0) hx hb dX2_setFloor_1 (by decide) ?_
  refine lv_bipush (v := 100) hx hb dX2_setFloor_2 (by decide) ?_
  refine callSI0 (rest := []) F (c_X2_isWithin_0 l G _ v 0 100 h) gX2_setFloor_X2_isWithin rfl hdX2_isWithin ⟨Nat.le_of_ble_eq_true rfl, Nat.le_of_ble_eq_true rfl⟩ hH rfl hl.1 (Nat.le_of_ble_eq_true rfl) dX2_setFloor_4 ⟨Nat.le_of_ble_eq_true rfl, Nat.le_of_ble_eq_true rfl⟩ rfl (fun u H locs hH => ?_)
  have hH : HH G A s (sW G q n nc t fl fd k wd wf wa cd cf) H locs := hH
  exact callSX0 (rest := []) F (c_X2_requireArgument_0 l hst G _) gX2_setFloor_X2_requireArgument rfl hdX2_requireArgument ⟨Nat.le_of_ble_eq_true rfl, Nat.le_of_ble_eq_true rfl⟩ hH rfl hl.1 (Nat.le_of_ble_eq_true rfl) dX2_setFloor_7 ⟨Nat.le_of_ble_eq_true rfl, Nat.le_of_ble_eq_true rfl⟩ rfl htb (Nat.le_of_ble_eq_true rfl) (Nat.le_of_ble_eq_true rfl)

set_option maxHeartbeats 4000000 in
set_option maxRecDepth 100000 in
theorem c_X2_door_1 (l : Launch) (G : Gx) (q : Nat → Nat) (n nc t : Nat) (fl fd : Int32) (k : Nat → Int32) (wd : Nat → Nat → Nat) (wf : Nat → Nat → Int32) (wa : Nat → Nat → Nat → Int32) (cd : Nat → Nat) (cf : Nat → Nat → Int32) (hn : n ≤ 8) (i : Nat) (hi : i < n) (ht : t ≤ 201) (j : Nat) (hj : j < t) (h : Int32) (h1 : 0 ≤ h) (h2 : h ≤ 80) (hk : k j = 0) : MV l yX2_door wsX2_door ({ frames := 2, cells := 0, slots := 0, locals := 44 } : Room) [.ref (q 0), .int (nI i), .int (nI j), .int h] G (sW G q n nc t fl fd k wd wf wa cd cf) (fun u => sW G q n nc t fl fd k wd wf (va_up wa i (va_up (wa i) 6 (upd (wa i 6) j h))) cd cf) := by
  refine ofMV (cc := cX2_door) (maxL := 5) (ret := none) (by decide) rfl (Nat.le_of_ble_eq_true rfl) (fun p e s m below meth c A ls F hr hnm hH hl => ?_)
  have F : Fx G p s m _ meth c cX2_door 5 wsX2_door RX2 A := F
  have hx := F.1.1
  have hb := F.1.2.1
  have hl : lv_has ls 5 [(0, .ref (q 0)), (1, .int (nI i)), (2, .int (nI j)), (3, .int h)] := hl
  refine lv_aload_n hx hb dX2_door_0 rfl (lv_at hl 0 rfl) ?_
  refine lv_iload_n hx hb dX2_door_1 rfl (lv_at hl 1 rfl) ?_
  refine callVR0 (rest := []) F (c_X2_workerAt_1 l G q n nc t fl fd k wd wf wa cd cf hn i hi) gX2_door_X2_workerAt rfl hdX2_workerAt ⟨Nat.le_of_ble_eq_true rfl, Nat.le_of_ble_eq_true rfl⟩ hH ⟨0, 2, _, _, rfl, rfl, rfl⟩ rfl hl.1 (Nat.le_of_ble_eq_true rfl) dX2_door_2 ⟨Nat.le_of_ble_eq_true rfl, Nat.le_of_ble_eq_true rfl⟩ rfl (fun H locs hH => ?_)
  refine lv_astore (lv' := [(4, .ref (wd i 0)), (0, .ref (q 0)), (1, .int (nI i)), (2, .int (nI j)), (3, .int h)]) hx hb dX2_door_5 hl (by decide) rfl (fun ls hl => ?_)
  refine lv_aload_n hx hb dX2_door_7 rfl (lv_at hl 1 rfl) ?_
  refine lv_iload_n hx hb dX2_door_8 rfl (lv_at hl 3 rfl) ?_
  refine callVI0 (rest := []) F (c_X2_hasPassed_1 l G q n nc t fl fd k wd wf wa cd cf (by omega) j hj) gX2_door_X2_hasPassed rfl hdX2_hasPassed ⟨Nat.le_of_ble_eq_true rfl, Nat.le_of_ble_eq_true rfl⟩ hH ⟨0, 2, _, _, rfl, rfl, rfl⟩ rfl hl.1 (Nat.le_of_ble_eq_true rfl) dX2_door_9 ⟨Nat.le_of_ble_eq_true rfl, Nat.le_of_ble_eq_true rfl⟩ rfl (fun u H locs hH => ?_)
  have hH : HH G A s (sW G q n nc t fl fd k wd wf wa cd cf) H locs := hH
  refine lv_if_eq (tgt := 29) hx hb dX2_door_12 (by decide) (fun c_12 => absurd c_12 (by decide)) (fun c_12 => ?_)
  refine lv_iload_n hx hb dX2_door_15 rfl (lv_at hl 4 rfl) ?_
  refine lv_iconst (v := 0) hx hb dX2_door_16 (by decide) ?_
  refine lv_bipush (v := 80) hx hb dX2_door_17 (by decide) ?_
  refine callSI0 (rest := []) F (c_X2_isWithin_1 l G _ h 0 80 h1 h2) gX2_door_X2_isWithin rfl hdX2_isWithin ⟨Nat.le_of_ble_eq_true rfl, Nat.le_of_ble_eq_true rfl⟩ hH rfl hl.1 (Nat.le_of_ble_eq_true rfl) dX2_door_19 ⟨Nat.le_of_ble_eq_true rfl, Nat.le_of_ble_eq_true rfl⟩ rfl (fun u H locs hH => ?_)
  have hH : HH G A s (sW G q n nc t fl fd k wd wf wa cd cf) H locs := hH
  refine lv_if_eq (tgt := 29) hx hb dX2_door_22 (by decide) (fun c_22 => absurd c_22 (by decide)) (fun c_22 => ?_)
  refine lv_iconst (v := 1) hx hb dX2_door_25 (by decide) ?_
  refine lv_goto (tgt := 30) hx hb dX2_door_26 (by decide) ?_
  refine callSV0 (rest := []) F (c_X2_requireArgument_1 l G _) gX2_door_X2_requireArgument rfl hdX2_requireArgument ⟨Nat.le_of_ble_eq_true rfl, Nat.le_of_ble_eq_true rfl⟩ hH rfl hl.1 (Nat.le_of_ble_eq_true rfl) dX2_door_30 ⟨Nat.le_of_ble_eq_true rfl, Nat.le_of_ble_eq_true rfl⟩ rfl (fun u H locs hH => ?_)
  have hH : HH G A s (sW G q n nc t fl fd k wd wf wa cd cf) H locs := hH
  refine lv_aload_n hx hb dX2_door_33 rfl (lv_at hl 1 rfl) ?_
  refine rget (C := RX2) (T := TX2) (N := 8) (ref := RX2) F in_X2_door_X2 hH 0 rfl rfl 2 (by decide) (by decide +kernel) (fun _ h9 => h9) (v := .ref (q 3)) rfl dX2_door_34 ?_
  refine lv_iload_n hx hb dX2_door_37 rfl (lv_at hl 3 rfl) ?_
  refine rzald F hH 3 (n := 201) (f := k) rfl j rfl (by omega) (by decide) dX2_door_38 ?_
  refine lv_if_ne (tgt := 46) hx hb dX2_door_39 (by decide) (fun c_39 => absurd hk c_39) (fun c_39 => ?_)
  refine lv_iconst (v := 1) hx hb dX2_door_42 (by decide) ?_
  refine lv_goto (tgt := 47) hx hb dX2_door_43 (by decide) ?_
  refine callSV0 (rest := []) F (c_X2_requireState_1 l G _) gX2_door_X2_requireState rfl hdX2_requireState ⟨Nat.le_of_ble_eq_true rfl, Nat.le_of_ble_eq_true rfl⟩ hH rfl hl.1 (Nat.le_of_ble_eq_true rfl) dX2_door_47 ⟨Nat.le_of_ble_eq_true rfl, Nat.le_of_ble_eq_true rfl⟩ rfl (fun u H locs hH => ?_)
  have hH : HH G A s (sW G q n nc t fl fd k wd wf wa cd cf) H locs := hH
  refine lv_aload hx hb dX2_door_50 (lv_at hl 0 rfl) ?_
  refine rgetN (C := RX1) (T := TX1) (N := 12) (ref := RX1) (host := RX2) F in_X2_door_X1 hH (4 + 7 * i + 0) (sW_at hi (j := 0) rfl) rfl 6 (by decide) (by decide +kernel) (fun _ h9 => h9) (v := .ref (wd i 6)) rfl dX2_door_52 ?_
  refine lv_iload_n hx hb dX2_door_55 rfl (lv_at hl 3 rfl) ?_
  refine lv_iload_n hx hb dX2_door_56 rfl (lv_at hl 4 rfl) ?_
  refine riast F hH (4 + 7 * i + 5) (n := 201) (f := wa i 6) (sW_at hi (j := 5) rfl) j rfl (by omega) (by decide) dX2_door_57 (fun H locs hH => ?_)
  have hH : HH G A s (sW G q n nc t fl fd k wd wf (va_up wa i (va_up (wa i) 6 (upd (wa i 6) j h))) cd cf) H locs := (sW_setA (wd := wd) (wf := wf) (wa := wa) hi (j := 5) (by decide) (a' := va_up (wa i) 6 (upd (wa i 6) j h)) rfl ▸ hH)
  exact retV F hr (fun _ => 0) hH (Nat.le_of_ble_eq_true rfl) (Nat.le_of_ble_eq_true rfl) dX2_door_58

set_option maxHeartbeats 4000000 in
set_option maxRecDepth 100000 in
theorem c_X2_door_3 (l : Launch) (hst : l.stackTraces = false) (G : Gx) (q : Nat → Nat) (n nc t : Nat) (fl fd : Int32) (k : Nat → Int32) (wd : Nat → Nat → Nat) (wf : Nat → Nat → Int32) (wa : Nat → Nat → Nat → Int32) (cd : Nat → Nat) (cf : Nat → Nat → Int32) (hn : n ≤ 8) (i : Nat) (hi : i < n) (ht : t ≤ 201) (j : Nat) (hj : j < t) (h : Int32) (h1 : 0 ≤ h) (h2 : h ≤ 80) (hk : ¬ k j = 0) : MX l yX2_door wsX2_door ({ frames := 7, cells := 1, slots := 6, locals := 110 } : Room) [.ref (q 0), .int (nI i), .int (nI j), .int h] G (sW G q n nc t fl fd k wd wf wa cd cf) "java/lang/IllegalStateException" := by
  refine ofMX (cc := cX2_door) (maxL := 5) (ret := none) (by decide) rfl (Nat.le_of_ble_eq_true rfl) (fun p e s m below meth c A ls F htb hH hl => ?_)
  have F : Fx G p s m _ meth c cX2_door 5 wsX2_door RX2 A := F
  have hx := F.1.1
  have hb := F.1.2.1
  have hl : lv_has ls 5 [(0, .ref (q 0)), (1, .int (nI i)), (2, .int (nI j)), (3, .int h)] := hl
  refine lv_aload_n hx hb dX2_door_0 rfl (lv_at hl 0 rfl) ?_
  refine lv_iload_n hx hb dX2_door_1 rfl (lv_at hl 1 rfl) ?_
  refine callVR0 (rest := []) F (c_X2_workerAt_1 l G q n nc t fl fd k wd wf wa cd cf hn i hi) gX2_door_X2_workerAt rfl hdX2_workerAt ⟨Nat.le_of_ble_eq_true rfl, Nat.le_of_ble_eq_true rfl⟩ hH ⟨0, 2, _, _, rfl, rfl, rfl⟩ rfl hl.1 (Nat.le_of_ble_eq_true rfl) dX2_door_2 ⟨Nat.le_of_ble_eq_true rfl, Nat.le_of_ble_eq_true rfl⟩ rfl (fun H locs hH => ?_)
  refine lv_astore (lv' := [(4, .ref (wd i 0)), (0, .ref (q 0)), (1, .int (nI i)), (2, .int (nI j)), (3, .int h)]) hx hb dX2_door_5 hl (by decide) rfl (fun ls hl => ?_)
  refine lv_aload_n hx hb dX2_door_7 rfl (lv_at hl 1 rfl) ?_
  refine lv_iload_n hx hb dX2_door_8 rfl (lv_at hl 3 rfl) ?_
  refine callVI0 (rest := []) F (c_X2_hasPassed_1 l G q n nc t fl fd k wd wf wa cd cf (by omega) j hj) gX2_door_X2_hasPassed rfl hdX2_hasPassed ⟨Nat.le_of_ble_eq_true rfl, Nat.le_of_ble_eq_true rfl⟩ hH ⟨0, 2, _, _, rfl, rfl, rfl⟩ rfl hl.1 (Nat.le_of_ble_eq_true rfl) dX2_door_9 ⟨Nat.le_of_ble_eq_true rfl, Nat.le_of_ble_eq_true rfl⟩ rfl (fun u H locs hH => ?_)
  have hH : HH G A s (sW G q n nc t fl fd k wd wf wa cd cf) H locs := hH
  refine lv_if_eq (tgt := 29) hx hb dX2_door_12 (by decide) (fun c_12 => absurd c_12 (by decide)) (fun c_12 => ?_)
  refine lv_iload_n hx hb dX2_door_15 rfl (lv_at hl 4 rfl) ?_
  refine lv_iconst (v := 0) hx hb dX2_door_16 (by decide) ?_
  refine lv_bipush (v := 80) hx hb dX2_door_17 (by decide) ?_
  refine callSI0 (rest := []) F (c_X2_isWithin_1 l G _ h 0 80 h1 h2) gX2_door_X2_isWithin rfl hdX2_isWithin ⟨Nat.le_of_ble_eq_true rfl, Nat.le_of_ble_eq_true rfl⟩ hH rfl hl.1 (Nat.le_of_ble_eq_true rfl) dX2_door_19 ⟨Nat.le_of_ble_eq_true rfl, Nat.le_of_ble_eq_true rfl⟩ rfl (fun u H locs hH => ?_)
  have hH : HH G A s (sW G q n nc t fl fd k wd wf wa cd cf) H locs := hH
  refine lv_if_eq (tgt := 29) hx hb dX2_door_22 (by decide) (fun c_22 => absurd c_22 (by decide)) (fun c_22 => ?_)
  refine lv_iconst (v := 1) hx hb dX2_door_25 (by decide) ?_
  refine lv_goto (tgt := 30) hx hb dX2_door_26 (by decide) ?_
  refine callSV0 (rest := []) F (c_X2_requireArgument_1 l G _) gX2_door_X2_requireArgument rfl hdX2_requireArgument ⟨Nat.le_of_ble_eq_true rfl, Nat.le_of_ble_eq_true rfl⟩ hH rfl hl.1 (Nat.le_of_ble_eq_true rfl) dX2_door_30 ⟨Nat.le_of_ble_eq_true rfl, Nat.le_of_ble_eq_true rfl⟩ rfl (fun u H locs hH => ?_)
  have hH : HH G A s (sW G q n nc t fl fd k wd wf wa cd cf) H locs := hH
  refine lv_aload_n hx hb dX2_door_33 rfl (lv_at hl 1 rfl) ?_
  refine rget (C := RX2) (T := TX2) (N := 8) (ref := RX2) F in_X2_door_X2 hH 0 rfl rfl 2 (by decide) (by decide +kernel) (fun _ h9 => h9) (v := .ref (q 3)) rfl dX2_door_34 ?_
  refine lv_iload_n hx hb dX2_door_37 rfl (lv_at hl 3 rfl) ?_
  refine rzald F hH 3 (n := 201) (f := k) rfl j rfl (by omega) (by decide) dX2_door_38 ?_
  refine lv_if_ne (tgt := 46) hx hb dX2_door_39 (by decide) (fun c_39 => ?_) (fun c_39 => absurd c_39 hk)
  refine lv_iconst (v := 0) hx hb dX2_door_46 (by decide) ?_
  exact callSX0 (rest := []) F (c_X2_requireState_0 l hst G _) gX2_door_X2_requireState rfl hdX2_requireState ⟨Nat.le_of_ble_eq_true rfl, Nat.le_of_ble_eq_true rfl⟩ hH rfl hl.1 (Nat.le_of_ble_eq_true rfl) dX2_door_47 ⟨Nat.le_of_ble_eq_true rfl, Nat.le_of_ble_eq_true rfl⟩ rfl htb (Nat.le_of_ble_eq_true rfl) (Nat.le_of_ble_eq_true rfl)

set_option maxHeartbeats 4000000 in
set_option maxRecDepth 100000 in
theorem c_X2_door_2 (l : Launch) (hst : l.stackTraces = false) (G : Gx) (q : Nat → Nat) (n nc t : Nat) (fl fd : Int32) (k : Nat → Int32) (wd : Nat → Nat → Nat) (wf : Nat → Nat → Int32) (wa : Nat → Nat → Nat → Int32) (cd : Nat → Nat) (cf : Nat → Nat → Int32) (hn : n ≤ 8) (i : Nat) (hi : i < n) (ht : t ≤ 201) (w : Int32) (x : Int32) (h : w < 0 ∨ nI t ≤ w) : MX l yX2_door wsX2_door ({ frames := 7, cells := 1, slots := 6, locals := 110 } : Room) [.ref (q 0), .int (nI i), .int w, .int x] G (sW G q n nc t fl fd k wd wf wa cd cf) "java/lang/IllegalArgumentException" := by
  refine ofMX (cc := cX2_door) (maxL := 5) (ret := none) (by decide) rfl (Nat.le_of_ble_eq_true rfl) (fun p e s m below meth c A ls F htb hH hl => ?_)
  have F : Fx G p s m _ meth c cX2_door 5 wsX2_door RX2 A := F
  have hx := F.1.1
  have hb := F.1.2.1
  have hl : lv_has ls 5 [(0, .ref (q 0)), (1, .int (nI i)), (2, .int w), (3, .int x)] := hl
  refine lv_aload_n hx hb dX2_door_0 rfl (lv_at hl 0 rfl) ?_
  refine lv_iload_n hx hb dX2_door_1 rfl (lv_at hl 1 rfl) ?_
  refine callVR0 (rest := []) F (c_X2_workerAt_1 l G q n nc t fl fd k wd wf wa cd cf hn i hi) gX2_door_X2_workerAt rfl hdX2_workerAt ⟨Nat.le_of_ble_eq_true rfl, Nat.le_of_ble_eq_true rfl⟩ hH ⟨0, 2, _, _, rfl, rfl, rfl⟩ rfl hl.1 (Nat.le_of_ble_eq_true rfl) dX2_door_2 ⟨Nat.le_of_ble_eq_true rfl, Nat.le_of_ble_eq_true rfl⟩ rfl (fun H locs hH => ?_)
  refine lv_astore (lv' := [(4, .ref (wd i 0)), (0, .ref (q 0)), (1, .int (nI i)), (2, .int w), (3, .int x)]) hx hb dX2_door_5 hl (by decide) rfl (fun ls hl => ?_)
  refine lv_aload_n hx hb dX2_door_7 rfl (lv_at hl 1 rfl) ?_
  refine lv_iload_n hx hb dX2_door_8 rfl (lv_at hl 3 rfl) ?_
  refine callVI0 (rest := []) F (c_X2_hasPassed_0 l G q n nc t fl fd k wd wf wa cd cf (by omega) w h) gX2_door_X2_hasPassed rfl hdX2_hasPassed ⟨Nat.le_of_ble_eq_true rfl, Nat.le_of_ble_eq_true rfl⟩ hH ⟨0, 2, _, _, rfl, rfl, rfl⟩ rfl hl.1 (Nat.le_of_ble_eq_true rfl) dX2_door_9 ⟨Nat.le_of_ble_eq_true rfl, Nat.le_of_ble_eq_true rfl⟩ rfl (fun u H locs hH => ?_)
  have hH : HH G A s (sW G q n nc t fl fd k wd wf wa cd cf) H locs := hH
  refine lv_if_eq (tgt := 29) hx hb dX2_door_12 (by decide) (fun c_12 => ?_) (fun c_12 => absurd rfl c_12)
  refine lv_iconst (v := 0) hx hb dX2_door_29 (by decide) ?_
  exact callSX0 (rest := []) F (c_X2_requireArgument_0 l hst G _) gX2_door_X2_requireArgument rfl hdX2_requireArgument ⟨Nat.le_of_ble_eq_true rfl, Nat.le_of_ble_eq_true rfl⟩ hH rfl hl.1 (Nat.le_of_ble_eq_true rfl) dX2_door_30 ⟨Nat.le_of_ble_eq_true rfl, Nat.le_of_ble_eq_true rfl⟩ rfl htb (Nat.le_of_ble_eq_true rfl) (Nat.le_of_ble_eq_true rfl)

set_option maxHeartbeats 4000000 in
set_option maxRecDepth 100000 in
theorem c_X2_door_22 (l : Launch) (hst : l.stackTraces = false) (G : Gx) (q : Nat → Nat) (n nc t : Nat) (fl fd : Int32) (k : Nat → Int32) (wd : Nat → Nat → Nat) (wf : Nat → Nat → Int32) (wa : Nat → Nat → Nat → Int32) (cd : Nat → Nat) (cf : Nat → Nat → Int32) (hn : n ≤ 8) (i : Nat) (hi : i < n) (ht : t ≤ 201) (j : Nat) (hj : j < t) (x : Int32) (h : x < 0 ∨ 80 < x) : MX l yX2_door wsX2_door ({ frames := 7, cells := 1, slots := 6, locals := 110 } : Room) [.ref (q 0), .int (nI i), .int (nI j), .int x] G (sW G q n nc t fl fd k wd wf wa cd cf) "java/lang/IllegalArgumentException" := by
  refine ofMX (cc := cX2_door) (maxL := 5) (ret := none) (by decide) rfl (Nat.le_of_ble_eq_true rfl) (fun p e s m below meth c A ls F htb hH hl => ?_)
  have F : Fx G p s m _ meth c cX2_door 5 wsX2_door RX2 A := F
  have hx := F.1.1
  have hb := F.1.2.1
  have hl : lv_has ls 5 [(0, .ref (q 0)), (1, .int (nI i)), (2, .int (nI j)), (3, .int x)] := hl
  refine lv_aload_n hx hb dX2_door_0 rfl (lv_at hl 0 rfl) ?_
  refine lv_iload_n hx hb dX2_door_1 rfl (lv_at hl 1 rfl) ?_
  refine callVR0 (rest := []) F (c_X2_workerAt_1 l G q n nc t fl fd k wd wf wa cd cf hn i hi) gX2_door_X2_workerAt rfl hdX2_workerAt ⟨Nat.le_of_ble_eq_true rfl, Nat.le_of_ble_eq_true rfl⟩ hH ⟨0, 2, _, _, rfl, rfl, rfl⟩ rfl hl.1 (Nat.le_of_ble_eq_true rfl) dX2_door_2 ⟨Nat.le_of_ble_eq_true rfl, Nat.le_of_ble_eq_true rfl⟩ rfl (fun H locs hH => ?_)
  refine lv_astore (lv' := [(4, .ref (wd i 0)), (0, .ref (q 0)), (1, .int (nI i)), (2, .int (nI j)), (3, .int x)]) hx hb dX2_door_5 hl (by decide) rfl (fun ls hl => ?_)
  refine lv_aload_n hx hb dX2_door_7 rfl (lv_at hl 1 rfl) ?_
  refine lv_iload_n hx hb dX2_door_8 rfl (lv_at hl 3 rfl) ?_
  refine callVI0 (rest := []) F (c_X2_hasPassed_1 l G q n nc t fl fd k wd wf wa cd cf (by omega) j hj) gX2_door_X2_hasPassed rfl hdX2_hasPassed ⟨Nat.le_of_ble_eq_true rfl, Nat.le_of_ble_eq_true rfl⟩ hH ⟨0, 2, _, _, rfl, rfl, rfl⟩ rfl hl.1 (Nat.le_of_ble_eq_true rfl) dX2_door_9 ⟨Nat.le_of_ble_eq_true rfl, Nat.le_of_ble_eq_true rfl⟩ rfl (fun u H locs hH => ?_)
  have hH : HH G A s (sW G q n nc t fl fd k wd wf wa cd cf) H locs := hH
  refine lv_if_eq (tgt := 29) hx hb dX2_door_12 (by decide) (fun c_12 => absurd c_12 (by decide)) (fun c_12 => ?_)
  refine lv_iload_n hx hb dX2_door_15 rfl (lv_at hl 4 rfl) ?_
  refine lv_iconst (v := 0) hx hb dX2_door_16 (by decide) ?_
  refine lv_bipush (v := 80) hx hb dX2_door_17 (by decide) ?_
  refine callSI0 (rest := []) F (c_X2_isWithin_0 l G _ x 0 80 h) gX2_door_X2_isWithin rfl hdX2_isWithin ⟨Nat.le_of_ble_eq_true rfl, Nat.le_of_ble_eq_true rfl⟩ hH rfl hl.1 (Nat.le_of_ble_eq_true rfl) dX2_door_19 ⟨Nat.le_of_ble_eq_true rfl, Nat.le_of_ble_eq_true rfl⟩ rfl (fun u H locs hH => ?_)
  have hH : HH G A s (sW G q n nc t fl fd k wd wf wa cd cf) H locs := hH
  refine lv_if_eq (tgt := 29) hx hb dX2_door_22 (by decide) (fun c_22 => ?_) (fun c_22 => absurd rfl c_22)
  refine lv_iconst (v := 0) hx hb dX2_door_29 (by decide) ?_
  exact callSX0 (rest := []) F (c_X2_requireArgument_0 l hst G _) gX2_door_X2_requireArgument rfl hdX2_requireArgument ⟨Nat.le_of_ble_eq_true rfl, Nat.le_of_ble_eq_true rfl⟩ hH rfl hl.1 (Nat.le_of_ble_eq_true rfl) dX2_door_30 ⟨Nat.le_of_ble_eq_true rfl, Nat.le_of_ble_eq_true rfl⟩ rfl htb (Nat.le_of_ble_eq_true rfl) (Nat.le_of_ble_eq_true rfl)

set_option maxHeartbeats 4000000 in
set_option maxRecDepth 100000 in
theorem c_X2_door_0 (l : Launch) (hst : l.stackTraces = false) (G : Gx) (q : Nat → Nat) (n nc t : Nat) (fl fd : Int32) (k : Nat → Int32) (wd : Nat → Nat → Nat) (wf : Nat → Nat → Int32) (wa : Nat → Nat → Nat → Int32) (cd : Nat → Nat) (cf : Nat → Nat → Int32) (hn : n ≤ 8) (v : Int32) (h : v < 0 ∨ nI n ≤ v) (w x : Int32) : MX l yX2_door wsX2_door ({ frames := 7, cells := 1, slots := 6, locals := 112 } : Room) [.ref (q 0), .int v, .int w, .int x] G (sW G q n nc t fl fd k wd wf wa cd cf) "java/lang/IndexOutOfBoundsException" := by
  refine ofMX (cc := cX2_door) (maxL := 5) (ret := none) (by decide) rfl (Nat.le_of_ble_eq_true rfl) (fun p e s m below meth c A ls F htb hH hl => ?_)
  have F : Fx G p s m _ meth c cX2_door 5 wsX2_door RX2 A := F
  have hx := F.1.1
  have hb := F.1.2.1
  have hl : lv_has ls 5 [(0, .ref (q 0)), (1, .int v), (2, .int w), (3, .int x)] := hl
  refine lv_aload_n hx hb dX2_door_0 rfl (lv_at hl 0 rfl) ?_
  refine lv_iload_n hx hb dX2_door_1 rfl (lv_at hl 1 rfl) ?_
  exact callVX0 (rest := []) F (c_X2_workerAt_0 l hst G q n nc t fl fd k wd wf wa cd cf hn v h) gX2_door_X2_workerAt rfl hdX2_workerAt ⟨Nat.le_of_ble_eq_true rfl, Nat.le_of_ble_eq_true rfl⟩ hH ⟨0, 2, _, _, rfl, rfl, rfl⟩ rfl hl.1 (Nat.le_of_ble_eq_true rfl) dX2_door_2 ⟨Nat.le_of_ble_eq_true rfl, Nat.le_of_ble_eq_true rfl⟩ rfl htb (Nat.le_of_ble_eq_true rfl) (Nat.le_of_ble_eq_true rfl)

set_option maxHeartbeats 4000000 in
set_option maxRecDepth 100000 in
theorem c_X2_mail_1 (l : Launch) (G : Gx) (q : Nat → Nat) (n nc t : Nat) (fl fd : Int32) (k : Nat → Int32) (wd : Nat → Nat → Nat) (wf : Nat → Nat → Int32) (wa : Nat → Nat → Nat → Int32) (cd : Nat → Nat) (cf : Nat → Nat → Int32) (hn : n ≤ 8) (i : Nat) (hi : i < n) (ht : t ≤ 201) (j : Nat) (hj : j < t) (hk : k j = 0) : MV l yX2_mail wsX2_mail ({ frames := 2, cells := 0, slots := 0, locals := 44 } : Room) [.ref (q 0), .int (nI i), .int (nI j)] G (sW G q n nc t fl fd k wd wf wa cd cf) (fun u => sW G q n nc t fl fd k wd wf (va_up wa i (va_up (wa i) 7 (upd (wa i 7) j 1))) cd cf) := by
  refine ofMV (cc := cX2_mail) (maxL := 4) (ret := none) (by decide) rfl (Nat.le_of_ble_eq_true rfl) (fun p e s m below meth c A ls F hr hnm hH hl => ?_)
  have F : Fx G p s m _ meth c cX2_mail 4 wsX2_mail RX2 A := F
  have hx := F.1.1
  have hb := F.1.2.1
  have hl : lv_has ls 4 [(0, .ref (q 0)), (1, .int (nI i)), (2, .int (nI j))] := hl
  refine lv_aload_n hx hb dX2_mail_0 rfl (lv_at hl 0 rfl) ?_
  refine lv_iload_n hx hb dX2_mail_1 rfl (lv_at hl 1 rfl) ?_
  refine callVR0 (rest := []) F (c_X2_workerAt_1 l G q n nc t fl fd k wd wf wa cd cf hn i hi) gX2_mail_X2_workerAt rfl hdX2_workerAt ⟨Nat.le_of_ble_eq_true rfl, Nat.le_of_ble_eq_true rfl⟩ hH ⟨0, 2, _, _, rfl, rfl, rfl⟩ rfl hl.1 (Nat.le_of_ble_eq_true rfl) dX2_mail_2 ⟨Nat.le_of_ble_eq_true rfl, Nat.le_of_ble_eq_true rfl⟩ rfl (fun H locs hH => ?_)
  refine lv_astore_n (lv' := [(3, .ref (wd i 0)), (0, .ref (q 0)), (1, .int (nI i)), (2, .int (nI j))]) hx hb dX2_mail_5 rfl hl (by decide) rfl (fun ls hl => ?_)
  refine lv_aload_n hx hb dX2_mail_6 rfl (lv_at hl 1 rfl) ?_
  refine lv_iload_n hx hb dX2_mail_7 rfl (lv_at hl 3 rfl) ?_
  refine callVI0 (rest := []) F (c_X2_hasPassed_1 l G q n nc t fl fd k wd wf wa cd cf (by omega) j hj) gX2_mail_X2_hasPassed rfl hdX2_hasPassed ⟨Nat.le_of_ble_eq_true rfl, Nat.le_of_ble_eq_true rfl⟩ hH ⟨0, 2, _, _, rfl, rfl, rfl⟩ rfl hl.1 (Nat.le_of_ble_eq_true rfl) dX2_mail_8 ⟨Nat.le_of_ble_eq_true rfl, Nat.le_of_ble_eq_true rfl⟩ rfl (fun u H locs hH => ?_)
  have hH : HH G A s (sW G q n nc t fl fd k wd wf wa cd cf) H locs := hH
  refine callSV0 (rest := []) F (c_X2_requireArgument_1 l G _) gX2_mail_X2_requireArgument rfl hdX2_requireArgument ⟨Nat.le_of_ble_eq_true rfl, Nat.le_of_ble_eq_true rfl⟩ hH rfl hl.1 (Nat.le_of_ble_eq_true rfl) dX2_mail_11 ⟨Nat.le_of_ble_eq_true rfl, Nat.le_of_ble_eq_true rfl⟩ rfl (fun u H locs hH => ?_)
  have hH : HH G A s (sW G q n nc t fl fd k wd wf wa cd cf) H locs := hH
  refine lv_aload_n hx hb dX2_mail_14 rfl (lv_at hl 1 rfl) ?_
  refine rget (C := RX2) (T := TX2) (N := 8) (ref := RX2) F in_X2_mail_X2 hH 0 rfl rfl 2 (by decide) (by decide +kernel) (fun _ h9 => h9) (v := .ref (q 3)) rfl dX2_mail_15 ?_
  refine lv_iload_n hx hb dX2_mail_18 rfl (lv_at hl 3 rfl) ?_
  refine rzald F hH 3 (n := 201) (f := k) rfl j rfl (by omega) (by decide) dX2_mail_19 ?_
  refine lv_if_ne (tgt := 27) hx hb dX2_mail_20 (by decide) (fun c_20 => absurd hk c_20) (fun c_20 => ?_)
  refine lv_iconst (v := 1) hx hb dX2_mail_23 (by decide) ?_
  refine lv_goto (tgt := 28) hx hb dX2_mail_24 (by decide) ?_
  refine callSV0 (rest := []) F (c_X2_requireState_1 l G _) gX2_mail_X2_requireState rfl hdX2_requireState ⟨Nat.le_of_ble_eq_true rfl, Nat.le_of_ble_eq_true rfl⟩ hH rfl hl.1 (Nat.le_of_ble_eq_true rfl) dX2_mail_28 ⟨Nat.le_of_ble_eq_true rfl, Nat.le_of_ble_eq_true rfl⟩ rfl (fun u H locs hH => ?_)
  have hH : HH G A s (sW G q n nc t fl fd k wd wf wa cd cf) H locs := hH
  refine lv_aload_n hx hb dX2_mail_31 rfl (lv_at hl 0 rfl) ?_
  refine rgetN (C := RX1) (T := TX1) (N := 12) (ref := RX1) (host := RX2) F in_X2_mail_X1 hH (4 + 7 * i + 0) (sW_at hi (j := 0) rfl) rfl 7 (by decide) (by decide +kernel) (fun _ h9 => h9) (v := .ref (wd i 7)) rfl dX2_mail_32 ?_
  refine lv_iload_n hx hb dX2_mail_35 rfl (lv_at hl 3 rfl) ?_
  refine lv_iconst (v := 1) hx hb dX2_mail_36 (by decide) ?_
  refine rzast F hH (4 + 7 * i + 6) (n := 201) (f := wa i 7) (sW_at hi (j := 6) rfl) j rfl (by omega) (by decide) rfl dX2_mail_37 (fun H locs hH => ?_)
  have hH : HH G A s (sW G q n nc t fl fd k wd wf (va_up wa i (va_up (wa i) 7 (upd (wa i 7) j 1))) cd cf) H locs := (sW_setA (wd := wd) (wf := wf) (wa := wa) hi (j := 6) (by decide) (a' := va_up (wa i) 7 (upd (wa i 7) j 1)) rfl ▸ hH)
  exact retV F hr (fun _ => 0) hH (Nat.le_of_ble_eq_true rfl) (Nat.le_of_ble_eq_true rfl) dX2_mail_38

set_option maxHeartbeats 4000000 in
set_option maxRecDepth 100000 in
theorem c_X2_mail_3 (l : Launch) (hst : l.stackTraces = false) (G : Gx) (q : Nat → Nat) (n nc t : Nat) (fl fd : Int32) (k : Nat → Int32) (wd : Nat → Nat → Nat) (wf : Nat → Nat → Int32) (wa : Nat → Nat → Nat → Int32) (cd : Nat → Nat) (cf : Nat → Nat → Int32) (hn : n ≤ 8) (i : Nat) (hi : i < n) (ht : t ≤ 201) (j : Nat) (hj : j < t) (hk : ¬ k j = 0) : MX l yX2_mail wsX2_mail ({ frames := 7, cells := 1, slots := 6, locals := 110 } : Room) [.ref (q 0), .int (nI i), .int (nI j)] G (sW G q n nc t fl fd k wd wf wa cd cf) "java/lang/IllegalStateException" := by
  refine ofMX (cc := cX2_mail) (maxL := 4) (ret := none) (by decide) rfl (Nat.le_of_ble_eq_true rfl) (fun p e s m below meth c A ls F htb hH hl => ?_)
  have F : Fx G p s m _ meth c cX2_mail 4 wsX2_mail RX2 A := F
  have hx := F.1.1
  have hb := F.1.2.1
  have hl : lv_has ls 4 [(0, .ref (q 0)), (1, .int (nI i)), (2, .int (nI j))] := hl
  refine lv_aload_n hx hb dX2_mail_0 rfl (lv_at hl 0 rfl) ?_
  refine lv_iload_n hx hb dX2_mail_1 rfl (lv_at hl 1 rfl) ?_
  refine callVR0 (rest := []) F (c_X2_workerAt_1 l G q n nc t fl fd k wd wf wa cd cf hn i hi) gX2_mail_X2_workerAt rfl hdX2_workerAt ⟨Nat.le_of_ble_eq_true rfl, Nat.le_of_ble_eq_true rfl⟩ hH ⟨0, 2, _, _, rfl, rfl, rfl⟩ rfl hl.1 (Nat.le_of_ble_eq_true rfl) dX2_mail_2 ⟨Nat.le_of_ble_eq_true rfl, Nat.le_of_ble_eq_true rfl⟩ rfl (fun H locs hH => ?_)
  refine lv_astore_n (lv' := [(3, .ref (wd i 0)), (0, .ref (q 0)), (1, .int (nI i)), (2, .int (nI j))]) hx hb dX2_mail_5 rfl hl (by decide) rfl (fun ls hl => ?_)
  refine lv_aload_n hx hb dX2_mail_6 rfl (lv_at hl 1 rfl) ?_
  refine lv_iload_n hx hb dX2_mail_7 rfl (lv_at hl 3 rfl) ?_
  refine callVI0 (rest := []) F (c_X2_hasPassed_1 l G q n nc t fl fd k wd wf wa cd cf (by omega) j hj) gX2_mail_X2_hasPassed rfl hdX2_hasPassed ⟨Nat.le_of_ble_eq_true rfl, Nat.le_of_ble_eq_true rfl⟩ hH ⟨0, 2, _, _, rfl, rfl, rfl⟩ rfl hl.1 (Nat.le_of_ble_eq_true rfl) dX2_mail_8 ⟨Nat.le_of_ble_eq_true rfl, Nat.le_of_ble_eq_true rfl⟩ rfl (fun u H locs hH => ?_)
  have hH : HH G A s (sW G q n nc t fl fd k wd wf wa cd cf) H locs := hH
  refine callSV0 (rest := []) F (c_X2_requireArgument_1 l G _) gX2_mail_X2_requireArgument rfl hdX2_requireArgument ⟨Nat.le_of_ble_eq_true rfl, Nat.le_of_ble_eq_true rfl⟩ hH rfl hl.1 (Nat.le_of_ble_eq_true rfl) dX2_mail_11 ⟨Nat.le_of_ble_eq_true rfl, Nat.le_of_ble_eq_true rfl⟩ rfl (fun u H locs hH => ?_)
  have hH : HH G A s (sW G q n nc t fl fd k wd wf wa cd cf) H locs := hH
  refine lv_aload_n hx hb dX2_mail_14 rfl (lv_at hl 1 rfl) ?_
  refine rget (C := RX2) (T := TX2) (N := 8) (ref := RX2) F in_X2_mail_X2 hH 0 rfl rfl 2 (by decide) (by decide +kernel) (fun _ h9 => h9) (v := .ref (q 3)) rfl dX2_mail_15 ?_
  refine lv_iload_n hx hb dX2_mail_18 rfl (lv_at hl 3 rfl) ?_
  refine rzald F hH 3 (n := 201) (f := k) rfl j rfl (by omega) (by decide) dX2_mail_19 ?_
  refine lv_if_ne (tgt := 27) hx hb dX2_mail_20 (by decide) (fun c_20 => ?_) (fun c_20 => absurd c_20 hk)
  refine lv_iconst (v := 0) hx hb dX2_mail_27 (by decide) ?_
  exact callSX0 (rest := []) F (c_X2_requireState_0 l hst G _) gX2_mail_X2_requireState rfl hdX2_requireState ⟨Nat.le_of_ble_eq_true rfl, Nat.le_of_ble_eq_true rfl⟩ hH rfl hl.1 (Nat.le_of_ble_eq_true rfl) dX2_mail_28 ⟨Nat.le_of_ble_eq_true rfl, Nat.le_of_ble_eq_true rfl⟩ rfl htb (Nat.le_of_ble_eq_true rfl) (Nat.le_of_ble_eq_true rfl)

set_option maxHeartbeats 4000000 in
set_option maxRecDepth 100000 in
theorem c_X2_mail_2 (l : Launch) (hst : l.stackTraces = false) (G : Gx) (q : Nat → Nat) (n nc t : Nat) (fl fd : Int32) (k : Nat → Int32) (wd : Nat → Nat → Nat) (wf : Nat → Nat → Int32) (wa : Nat → Nat → Nat → Int32) (cd : Nat → Nat) (cf : Nat → Nat → Int32) (hn : n ≤ 8) (i : Nat) (hi : i < n) (ht : t ≤ 201) (w : Int32) (h : w < 0 ∨ nI t ≤ w) : MX l yX2_mail wsX2_mail ({ frames := 7, cells := 1, slots := 6, locals := 110 } : Room) [.ref (q 0), .int (nI i), .int w] G (sW G q n nc t fl fd k wd wf wa cd cf) "java/lang/IllegalArgumentException" := by
  refine ofMX (cc := cX2_mail) (maxL := 4) (ret := none) (by decide) rfl (Nat.le_of_ble_eq_true rfl) (fun p e s m below meth c A ls F htb hH hl => ?_)
  have F : Fx G p s m _ meth c cX2_mail 4 wsX2_mail RX2 A := F
  have hx := F.1.1
  have hb := F.1.2.1
  have hl : lv_has ls 4 [(0, .ref (q 0)), (1, .int (nI i)), (2, .int w)] := hl
  refine lv_aload_n hx hb dX2_mail_0 rfl (lv_at hl 0 rfl) ?_
  refine lv_iload_n hx hb dX2_mail_1 rfl (lv_at hl 1 rfl) ?_
  refine callVR0 (rest := []) F (c_X2_workerAt_1 l G q n nc t fl fd k wd wf wa cd cf hn i hi) gX2_mail_X2_workerAt rfl hdX2_workerAt ⟨Nat.le_of_ble_eq_true rfl, Nat.le_of_ble_eq_true rfl⟩ hH ⟨0, 2, _, _, rfl, rfl, rfl⟩ rfl hl.1 (Nat.le_of_ble_eq_true rfl) dX2_mail_2 ⟨Nat.le_of_ble_eq_true rfl, Nat.le_of_ble_eq_true rfl⟩ rfl (fun H locs hH => ?_)
  refine lv_astore_n (lv' := [(3, .ref (wd i 0)), (0, .ref (q 0)), (1, .int (nI i)), (2, .int w)]) hx hb dX2_mail_5 rfl hl (by decide) rfl (fun ls hl => ?_)
  refine lv_aload_n hx hb dX2_mail_6 rfl (lv_at hl 1 rfl) ?_
  refine lv_iload_n hx hb dX2_mail_7 rfl (lv_at hl 3 rfl) ?_
  refine callVI0 (rest := []) F (c_X2_hasPassed_0 l G q n nc t fl fd k wd wf wa cd cf (by omega) w h) gX2_mail_X2_hasPassed rfl hdX2_hasPassed ⟨Nat.le_of_ble_eq_true rfl, Nat.le_of_ble_eq_true rfl⟩ hH ⟨0, 2, _, _, rfl, rfl, rfl⟩ rfl hl.1 (Nat.le_of_ble_eq_true rfl) dX2_mail_8 ⟨Nat.le_of_ble_eq_true rfl, Nat.le_of_ble_eq_true rfl⟩ rfl (fun u H locs hH => ?_)
  have hH : HH G A s (sW G q n nc t fl fd k wd wf wa cd cf) H locs := hH
  exact callSX0 (rest := []) F (c_X2_requireArgument_0 l hst G _) gX2_mail_X2_requireArgument rfl hdX2_requireArgument ⟨Nat.le_of_ble_eq_true rfl, Nat.le_of_ble_eq_true rfl⟩ hH rfl hl.1 (Nat.le_of_ble_eq_true rfl) dX2_mail_11 ⟨Nat.le_of_ble_eq_true rfl, Nat.le_of_ble_eq_true rfl⟩ rfl htb (Nat.le_of_ble_eq_true rfl) (Nat.le_of_ble_eq_true rfl)

set_option maxHeartbeats 4000000 in
set_option maxRecDepth 100000 in
theorem c_X2_mail_0 (l : Launch) (hst : l.stackTraces = false) (G : Gx) (q : Nat → Nat) (n nc t : Nat) (fl fd : Int32) (k : Nat → Int32) (wd : Nat → Nat → Nat) (wf : Nat → Nat → Int32) (wa : Nat → Nat → Nat → Int32) (cd : Nat → Nat) (cf : Nat → Nat → Int32) (hn : n ≤ 8) (v : Int32) (h : v < 0 ∨ nI n ≤ v) (w : Int32) : MX l yX2_mail wsX2_mail ({ frames := 7, cells := 1, slots := 6, locals := 112 } : Room) [.ref (q 0), .int v, .int w] G (sW G q n nc t fl fd k wd wf wa cd cf) "java/lang/IndexOutOfBoundsException" := by
  refine ofMX (cc := cX2_mail) (maxL := 4) (ret := none) (by decide) rfl (Nat.le_of_ble_eq_true rfl) (fun p e s m below meth c A ls F htb hH hl => ?_)
  have F : Fx G p s m _ meth c cX2_mail 4 wsX2_mail RX2 A := F
  have hx := F.1.1
  have hb := F.1.2.1
  have hl : lv_has ls 4 [(0, .ref (q 0)), (1, .int v), (2, .int w)] := hl
  refine lv_aload_n hx hb dX2_mail_0 rfl (lv_at hl 0 rfl) ?_
  refine lv_iload_n hx hb dX2_mail_1 rfl (lv_at hl 1 rfl) ?_
  exact callVX0 (rest := []) F (c_X2_workerAt_0 l hst G q n nc t fl fd k wd wf wa cd cf hn v h) gX2_mail_X2_workerAt rfl hdX2_workerAt ⟨Nat.le_of_ble_eq_true rfl, Nat.le_of_ble_eq_true rfl⟩ hH ⟨0, 2, _, _, rfl, rfl, rfl⟩ rfl hl.1 (Nat.le_of_ble_eq_true rfl) dX2_mail_2 ⟨Nat.le_of_ble_eq_true rfl, Nat.le_of_ble_eq_true rfl⟩ rfl htb (Nat.le_of_ble_eq_true rfl) (Nat.le_of_ble_eq_true rfl)

set_option maxHeartbeats 4000000 in
set_option maxRecDepth 100000 in
theorem c_X2_chargeBack_m (l : Launch) (G : Gx) (q : Nat → Nat) (n nc t : Nat) (fl fd : Int32) (k : Nat → Int32) (wd : Nat → Nat → Nat) (wf : Nat → Nat → Int32) (wa : Nat → Nat → Nat → Int32) (cd : Nat → Nat) (cf : Nat → Nat → Int32) (hn : n ≤ 8) (i : Nat) (hi : i < n) (j : Nat) (hj : j < 201) (hm : ¬ wa i 7 j = 0) : MV l yX2_chargeBack wsX2_chargeBack ({ frames := 0, cells := 0, slots := 0, locals := 0 } : Room) [.ref (q 0), .ref (wd i 0), .int (nI j)] G (sW G q n nc t fl fd k wd wf wa cd cf) (fun u => sW G q n nc t fl (fd + ((wa i 5 j) + (((wa i 5 j) * 10) / 100))) k wd wf wa cd cf) := by
  refine ofMV (cc := cX2_chargeBack) (maxL := 5) (ret := none) (by decide) rfl (Nat.le_of_ble_eq_true rfl) (fun p e s m below meth c A ls F hr hnm hH hl => ?_)
  have F : Fx G p s m _ meth c cX2_chargeBack 5 wsX2_chargeBack RX2 A := F
  have hx := F.1.1
  have hb := F.1.2.1
  have hl : lv_has ls 5 [(0, .ref (q 0)), (1, .ref (wd i 0)), (2, .int (nI j))] := hl
  refine lv_aload_n hx hb dX2_chargeBack_0 rfl (lv_at hl 1 rfl) ?_
  refine rgetN (C := RX1) (T := TX1) (N := 12) (ref := RX1) (host := RX2) F in_X2_chargeBack_X1 hH (4 + 7 * i + 0) (sW_at hi (j := 0) rfl) rfl 5 (by decide) (by decide +kernel) (fun _ h9 => h9) (v := .ref (wd i 5)) rfl dX2_chargeBack_1 ?_
  refine lv_iload_n hx hb dX2_chargeBack_4 rfl (lv_at hl 2 rfl) ?_
  refine riald F hH (4 + 7 * i + 4) (n := 201) (f := wa i 5) (sW_at hi (j := 4) rfl) j rfl (by omega) (by decide) dX2_chargeBack_5 ?_
  refine lv_istore_n (lv' := [(3, .int (wa i 5 j)), (0, .ref (q 0)), (1, .ref (wd i 0)), (2, .int (nI j))]) hx hb dX2_chargeBack_6 rfl hl (by decide) rfl (fun ls hl => ?_)
  refine lv_aload_n hx hb dX2_chargeBack_7 rfl (lv_at hl 2 rfl) ?_
  refine rgetN (C := RX1) (T := TX1) (N := 12) (ref := RX1) (host := RX2) F in_X2_chargeBack_X1 hH (4 + 7 * i + 0) (sW_at hi (j := 0) rfl) rfl 7 (by decide) (by decide +kernel) (fun _ h9 => h9) (v := .ref (wd i 7)) rfl dX2_chargeBack_8 ?_
  refine lv_iload_n hx hb dX2_chargeBack_11 rfl (lv_at hl 3 rfl) ?_
  refine rzald F hH (4 + 7 * i + 6) (n := 201) (f := wa i 7) (sW_at hi (j := 6) rfl) j rfl (by omega) (by decide) dX2_chargeBack_12 ?_
  refine lv_if_eq (tgt := 37) hx hb dX2_chargeBack_13 (by decide) (fun c_13 => absurd c_13 hm) (fun c_13 => ?_)
  refine lv_aload_n hx hb dX2_chargeBack_16 rfl (lv_at hl 1 rfl) ?_
  refine lv_dup hx hb dX2_chargeBack_17 rfl ?_
  refine rget (C := RX2) (T := TX2) (N := 8) (ref := RX2) F in_X2_chargeBack_X2 hH 0 rfl rfl 7 (by decide) (by decide +kernel) (fun _ h9 => h9) (v := .int fd) rfl dX2_chargeBack_18 ?_
  refine lv_iload_n hx hb dX2_chargeBack_21 rfl (lv_at hl 0 rfl) ?_
  refine lv_iload_n hx hb dX2_chargeBack_22 rfl (lv_at hl 0 rfl) ?_
  refine lv_bipush (v := 10) hx hb dX2_chargeBack_23 (by decide) ?_
  refine lv_imul hx hb dX2_chargeBack_25 ?_
  refine lv_bipush (v := 100) hx hb dX2_chargeBack_26 (by decide) ?_
  refine lv_idiv hx hb dX2_chargeBack_28 (by decide) ?_
  refine lv_iadd hx hb dX2_chargeBack_29 ?_
  refine lv_iadd hx hb dX2_chargeBack_30 ?_
  refine rput (C := RX2) (T := TX2) (N := 8) (ref := RX2) F in_X2_chargeBack_X2 tyX2 tyX2_ok nmX2 hH 0 rfl rfl 7 (by decide) (by decide +kernel) (fun _ h9 => h9) rfl (v := .int (fd + ((wa i 5 j) + (((wa i 5 j) * 10) / 100)))) rfl rfl (Nat.le_of_ble_eq_true rfl) dX2_chargeBack_31 (fun H locs hH => ?_)
  have hH : HH G A s (sW G q n nc t fl (fd + ((wa i 5 j) + (((wa i 5 j) * 10) / 100))) k wd wf wa cd cf) H locs := hH
  refine lv_goto (tgt := 66) hx hb dX2_chargeBack_34 (by decide) ?_
  exact retV F hr (fun _ => 0) hH (Nat.le_of_ble_eq_true rfl) (Nat.le_of_ble_eq_true rfl) dX2_chargeBack_66

set_option maxHeartbeats 4000000 in
set_option maxRecDepth 100000 in
theorem c_X2_chargeBack_n (l : Launch) (G : Gx) (q : Nat → Nat) (n nc t : Nat) (fl fd : Int32) (k : Nat → Int32) (wd : Nat → Nat → Nat) (wf : Nat → Nat → Int32) (wa : Nat → Nat → Nat → Int32) (cd : Nat → Nat) (cf : Nat → Nat → Int32) (hn : n ≤ 8) (i : Nat) (hi : i < n) (j : Nat) (hj : j < 201) (hm : wa i 7 j = 0) : MV l yX2_chargeBack wsX2_chargeBack ({ frames := 0, cells := 0, slots := 0, locals := 0 } : Room) [.ref (q 0), .ref (wd i 0), .int (nI j)] G (sW G q n nc t fl fd k wd wf wa cd cf) (fun u => sW G q n nc t fl (fd + ((wa i 5 j) - ((wa i 5 j) / 2))) k wd (va_up wf i (va_up (wf i) 11 ((wf i 11) + ((wa i 5 j) / 2)))) wa cd cf) := by
  refine ofMV (cc := cX2_chargeBack) (maxL := 5) (ret := none) (by decide) rfl (Nat.le_of_ble_eq_true rfl) (fun p e s m below meth c A ls F hr hnm hH hl => ?_)
  have F : Fx G p s m _ meth c cX2_chargeBack 5 wsX2_chargeBack RX2 A := F
  have hx := F.1.1
  have hb := F.1.2.1
  have hl : lv_has ls 5 [(0, .ref (q 0)), (1, .ref (wd i 0)), (2, .int (nI j))] := hl
  refine lv_aload_n hx hb dX2_chargeBack_0 rfl (lv_at hl 1 rfl) ?_
  refine rgetN (C := RX1) (T := TX1) (N := 12) (ref := RX1) (host := RX2) F in_X2_chargeBack_X1 hH (4 + 7 * i + 0) (sW_at hi (j := 0) rfl) rfl 5 (by decide) (by decide +kernel) (fun _ h9 => h9) (v := .ref (wd i 5)) rfl dX2_chargeBack_1 ?_
  refine lv_iload_n hx hb dX2_chargeBack_4 rfl (lv_at hl 2 rfl) ?_
  refine riald F hH (4 + 7 * i + 4) (n := 201) (f := wa i 5) (sW_at hi (j := 4) rfl) j rfl (by omega) (by decide) dX2_chargeBack_5 ?_
  refine lv_istore_n (lv' := [(3, .int (wa i 5 j)), (0, .ref (q 0)), (1, .ref (wd i 0)), (2, .int (nI j))]) hx hb dX2_chargeBack_6 rfl hl (by decide) rfl (fun ls hl => ?_)
  refine lv_aload_n hx hb dX2_chargeBack_7 rfl (lv_at hl 2 rfl) ?_
  refine rgetN (C := RX1) (T := TX1) (N := 12) (ref := RX1) (host := RX2) F in_X2_chargeBack_X1 hH (4 + 7 * i + 0) (sW_at hi (j := 0) rfl) rfl 7 (by decide) (by decide +kernel) (fun _ h9 => h9) (v := .ref (wd i 7)) rfl dX2_chargeBack_8 ?_
  refine lv_iload_n hx hb dX2_chargeBack_11 rfl (lv_at hl 3 rfl) ?_
  refine rzald F hH (4 + 7 * i + 6) (n := 201) (f := wa i 7) (sW_at hi (j := 6) rfl) j rfl (by omega) (by decide) dX2_chargeBack_12 ?_
  refine lv_if_eq (tgt := 37) hx hb dX2_chargeBack_13 (by decide) (fun c_13 => ?_) (fun c_13 => absurd hm c_13)
  refine lv_iload_n hx hb dX2_chargeBack_37 rfl (lv_at hl 0 rfl) ?_
  refine lv_iconst (v := 2) hx hb dX2_chargeBack_38 (by decide) ?_
  refine lv_idiv hx hb dX2_chargeBack_39 (by decide) ?_
  refine lv_istore (lv' := [(4, .int ((wa i 5 j) / 2)), (3, .int (wa i 5 j)), (0, .ref (q 0)), (1, .ref (wd i 0)), (2, .int (nI j))]) hx hb dX2_chargeBack_40 hl (by decide) rfl (fun ls hl => ?_)
  refine lv_aload_n hx hb dX2_chargeBack_42 rfl (lv_at hl 3 rfl) ?_
  refine lv_dup hx hb dX2_chargeBack_43 rfl ?_
  refine rgetN (C := RX1) (T := TX1) (N := 12) (ref := RX1) (host := RX2) F in_X2_chargeBack_X1 hH (4 + 7 * i + 0) (sW_at hi (j := 0) rfl) rfl 11 (by decide) (by decide +kernel) (fun _ h9 => h9) (v := .int (wf i 11)) rfl dX2_chargeBack_44 ?_
  refine lv_iload hx hb dX2_chargeBack_47 (lv_at hl 0 rfl) ?_
  refine lv_iadd hx hb dX2_chargeBack_49 ?_
  refine rputN (C := RX1) (T := TX1) (N := 12) (ref := RX1) (host := RX2) F in_X2_chargeBack_X1 tyX1 tyX1_ok nmX1 hH (4 + 7 * i + 0) (sW_at hi (j := 0) rfl) rfl 11 (by decide) (by decide +kernel) (fun _ h9 => h9) rfl (v := .int ((wf i 11) + ((wa i 5 j) / 2))) rfl rfl (Nat.le_of_ble_eq_true rfl) dX2_chargeBack_50 (fun H locs hH => ?_)
  have hH : HH G A s (sW G q n nc t fl fd k wd (va_up wf i (va_up (wf i) 11 ((wf i 11) + ((wa i 5 j) / 2)))) wa cd cf) H locs := (sW_setF (wd := wd) (wf := wf) (wa := wa) hi (f' := va_up (wf i) 11 ((wf i 11) + ((wa i 5 j) / 2))) rfl ▸ hH)
  refine lv_aload_n hx hb dX2_chargeBack_53 rfl (lv_at hl 2 rfl) ?_
  refine lv_dup hx hb dX2_chargeBack_54 rfl ?_
  refine rget (C := RX2) (T := TX2) (N := 8) (ref := RX2) F in_X2_chargeBack_X2 hH 0 rfl rfl 7 (by decide) (by decide +kernel) (fun _ h9 => h9) (v := .int fd) rfl dX2_chargeBack_55 ?_
  refine lv_iload_n hx hb dX2_chargeBack_58 rfl (lv_at hl 1 rfl) ?_
  refine lv_iload hx hb dX2_chargeBack_59 (lv_at hl 0 rfl) ?_
  refine lv_isub hx hb dX2_chargeBack_61 ?_
  refine lv_iadd hx hb dX2_chargeBack_62 ?_
  refine rput (C := RX2) (T := TX2) (N := 8) (ref := RX2) F in_X2_chargeBack_X2 tyX2 tyX2_ok nmX2 hH 0 rfl rfl 7 (by decide) (by decide +kernel) (fun _ h9 => h9) rfl (v := .int (fd + ((wa i 5 j) - ((wa i 5 j) / 2)))) rfl rfl (Nat.le_of_ble_eq_true rfl) dX2_chargeBack_63 (fun H locs hH => ?_)
  have hH : HH G A s (sW G q n nc t fl (fd + ((wa i 5 j) - ((wa i 5 j) / 2))) k wd (va_up wf i (va_up (wf i) 11 ((wf i 11) + ((wa i 5 j) / 2)))) wa cd cf) H locs := hH
  exact retV F hr (fun _ => 0) hH (Nat.le_of_ble_eq_true rfl) (Nat.le_of_ble_eq_true rfl) dX2_chargeBack_66

set_option maxHeartbeats 4000000 in
set_option maxRecDepth 100000 in
theorem c_X1_takeNotice (l : Launch) (G : Gx) (d : Nat → Nat) (f : Nat → Int32) (a : Nat → Nat → Int32) (x y : Nat) (hxy : x ≤ y) (hy : y ≤ 200) (h : Int32) : MV l yX1_takeNotice wsX1_takeNotice ({ frames := 0, cells := 0, slots := 0, locals := 0 } : Room) [.ref (d 0), .int (nI x), .int (nI y), .int h] G (wW G d f a) (fun u => wW G d (va_up f 8 (f 8 + 1)) (va_up a 2 (fillR (a 2) x (y + 1) h))) := by
  refine ofMV (cc := cX1_takeNotice) (maxL := 5) (ret := none) (by decide) rfl (Nat.le_of_ble_eq_true rfl) (fun p e s m below meth c A ls F hr hnm hH hl => ?_)
  have F : Fx G p s m _ meth c cX1_takeNotice 5 wsX1_takeNotice RX1 A := F
  have hx := F.1.1
  have hb := F.1.2.1
  have hl : lv_has ls 5 [(0, .ref (d 0)), (1, .int (nI x)), (2, .int (nI y)), (3, .int h)] := hl
  refine lv_iload_n hx hb dX1_takeNotice_0 rfl (lv_at hl 1 rfl) ?_
  refine lv_istore (lv' := [(4, .int (nI x)), (0, .ref (d 0)), (1, .int (nI x)), (2, .int (nI y)), (3, .int h)]) hx hb dX1_takeNotice_1 hl (by decide) rfl (fun ls hl => ?_)
  have hH : HH G A s (wW G d f (va_up a 2 (fillR (a 2) x x h))) s.heap [] := by rw [fillR_0]; exact hH
  have loop : ∀ (n9 : Nat) (i : Nat) (hc9 : i + n9 = y + 1) (hxi : x ≤ i) (H : Heap) (locs : List Loc) (ls : Array Slot), HH G A s (wW G d f (va_up a 2 (fillR (a 2) x i h))) H locs → lv_has ls 5 [(4, .int (nI i)), (0, .ref (d 0)), (1, .int (nI x)), (2, .int (nI y)), (3, .int h)] → W p l e ({ frames := 0, cells := 0, slots := 0, locals := 0 } : Room) s m [.ref (d 0), .int (nI x), .int (nI y), .int h].toArray below meth c H locs 0 0 (EnV G A below s [.ref (d 0), .int (nI x), .int (nI y), .int h].toArray ({ frames := 0, cells := 0, slots := 0, locals := 0 } : Room) (fun u => wW G d (va_up f 8 (f 8 + 1)) (va_up a 2 (fillR (a 2) x (y + 1) h)))) (F0 m 3 ls []) := by
    intro n9
    induction n9 with
    | zero =>
      intro i hc9 hxi H locs ls hH hl
      refine lv_iload hx hb dX1_takeNotice_3 (lv_at hl 0 rfl) ?_
      refine lv_iload_n hx hb dX1_takeNotice_5 rfl (lv_at hl 3 rfl) ?_
      refine lv_icmp_gt (tgt := 23) hx hb dX1_takeNotice_6 (by decide) (fun c_6 => ?_) (fun c_6 => absurd (by rw [show i = y + 1 by omega]; exact nI_lt (by omega) (by omega)) c_6)
      have hH : HH G A s (wW G d f (va_up a 2 (fillR (a 2) x (y + 1) h))) H locs := by rw [show y + 1 = i by omega]; exact hH
      refine lv_aload_n hx hb dX1_takeNotice_23 rfl (lv_at hl 1 rfl) ?_
      refine lv_dup hx hb dX1_takeNotice_24 rfl ?_
      refine rget (C := RX1) (T := TX1) (N := 12) (ref := RX1) F in_X1_takeNotice_X1 hH 0 rfl rfl 8 (by decide) (by decide +kernel) (fun _ h9 => h9) (v := .int (f 8)) rfl dX1_takeNotice_25 ?_
      refine lv_iconst (v := 1) hx hb dX1_takeNotice_28 (by decide) ?_
      refine lv_iadd hx hb dX1_takeNotice_29 ?_
      refine rput (C := RX1) (T := TX1) (N := 12) (ref := RX1) F in_X1_takeNotice_X1 tyX1 tyX1_ok nmX1 hH 0 rfl rfl 8 (by decide) (by decide +kernel) (fun _ h9 => h9) rfl (v := .int ((f 8) + 1)) rfl rfl (Nat.le_of_ble_eq_true rfl) dX1_takeNotice_30 (fun H locs hH => ?_)
      have hH : HH G A s (wW G d (va_up f 8 ((f 8) + 1)) (va_up a 2 (fillR (a 2) x (y + 1) h))) H locs := hH
      exact retV F hr (fun _ => 0) hH (Nat.le_of_ble_eq_true rfl) (Nat.le_of_ble_eq_true rfl) dX1_takeNotice_33
    | succ n9 ih =>
      intro i hc9 hxi H locs ls hH hl
      refine lv_iload hx hb dX1_takeNotice_3 (lv_at hl 0 rfl) ?_
      refine lv_iload_n hx hb dX1_takeNotice_5 rfl (lv_at hl 3 rfl) ?_
      refine lv_icmp_gt (tgt := 23) hx hb dX1_takeNotice_6 (by decide) (fun c_6 => absurd c_6 (nI_nlt (by omega) (by omega))) (fun c_6 => ?_)
      refine lv_aload_n hx hb dX1_takeNotice_9 rfl (lv_at hl 1 rfl) ?_
      refine rget (C := RX1) (T := TX1) (N := 12) (ref := RX1) F in_X1_takeNotice_X1 hH 0 rfl rfl 2 (by decide) (by decide +kernel) (fun _ h9 => h9) (v := .ref (d 2)) rfl dX1_takeNotice_10 ?_
      refine lv_iload hx hb dX1_takeNotice_13 (lv_at hl 0 rfl) ?_
      refine lv_iload_n hx hb dX1_takeNotice_15 rfl (lv_at hl 4 rfl) ?_
      refine riast F hH 1 (n := 201) (f := fillR (a 2) x i h) rfl i rfl (by omega) (by decide) dX1_takeNotice_16 (fun H locs hH => ?_)
      have hH : HH G A s (wW G d f (va_up a 2 (upd (fillR (a 2) x i h) i h))) H locs := hH
      refine lv_iinc (v := (nI (i + 1))) (lv' := [(4, .int (nI (i + 1))), (0, .ref (d 0)), (1, .int (nI x)), (2, .int (nI y)), (3, .int h)]) hx hb dX1_takeNotice_17 hl (k := 0) rfl (nI_1 i) (by decide) rfl (fun ls hl => ?_)
      refine lv_goto (tgt := 3) hx hb dX1_takeNotice_20 (by decide) ?_
      exact ih (i + 1) (by omega) (by omega) _ _ _ (by rw [← fillR_step hxi]; exact hH) (lv_sub hl [0, 1, 2, 3, 4] (rfl))
  exact loop (y + 1 - x) x (by omega) (Nat.le_refl x) _ _ _ hH (lv_sub hl [0, 1, 2, 3, 4] (rfl))

set_option maxHeartbeats 4000000 in
set_option maxRecDepth 100000 in
theorem c_X1_hasNoCourseFrom_1 (l : Launch) (G : Gx) (d : Nat → Nat) (f : Nat → Int32) (a : Nat → Nat → Int32) (x y : Nat) (hxy : x ≤ y) (hy : y ≤ 200) (hno : ∀ z, x ≤ z → z ≤ y → a 3 z ≤ 0) : MI l yX1_hasNoCourseFrom wsX1_hasNoCourseFrom ({ frames := 0, cells := 0, slots := 0, locals := 0 } : Room) [.ref (d 0), .int (nI x), .int (nI y)] G (wW G d f a) (fun u => wW G d f a) 1 := by
  refine ofMI (cc := cX1_hasNoCourseFrom) (maxL := 4) (ret := (some .boolean)) (by decide) rfl (Nat.le_of_ble_eq_true rfl) (fun p e s m below meth c A ls F hr hnm hH hl => ?_)
  have F : Fx G p s m _ meth c cX1_hasNoCourseFrom 4 wsX1_hasNoCourseFrom RX1 A := F
  have hx := F.1.1
  have hb := F.1.2.1
  have hl : lv_has ls 4 [(0, .ref (d 0)), (1, .int (nI x)), (2, .int (nI y))] := hl
  refine lv_iload_n hx hb dX1_hasNoCourseFrom_0 rfl (lv_at hl 1 rfl) ?_
  refine lv_istore_n (lv' := [(3, .int (nI x)), (0, .ref (d 0)), (1, .int (nI x)), (2, .int (nI y))]) hx hb dX1_hasNoCourseFrom_1 rfl hl (by decide) rfl (fun ls hl => ?_)
  have loop : ∀ (n9 : Nat) (i : Nat) (hc9 : i + n9 = y + 1) (hxi : x ≤ i) (H : Heap) (locs : List Loc) (ls : Array Slot), HH G A s (wW G d f a) H locs → lv_has ls 4 [(3, .int (nI i)), (0, .ref (d 0)), (1, .int (nI x)), (2, .int (nI y))] → W p l e ({ frames := 0, cells := 0, slots := 0, locals := 0 } : Room) s m [.ref (d 0), .int (nI x), .int (nI y)].toArray below meth c H locs 0 0 (EnI G A below s [.ref (d 0), .int (nI x), .int (nI y)].toArray ({ frames := 0, cells := 0, slots := 0, locals := 0 } : Room) (fun u => wW G d f a) 1) (F0 m 2 ls []) := by
    intro n9
    induction n9 with
    | zero =>
      intro i hc9 hxi H locs ls hH hl
      refine lv_iload_n hx hb dX1_hasNoCourseFrom_2 rfl (lv_at hl 0 rfl) ?_
      refine lv_iload_n hx hb dX1_hasNoCourseFrom_3 rfl (lv_at hl 3 rfl) ?_
      refine lv_icmp_gt (tgt := 24) hx hb dX1_hasNoCourseFrom_4 (by decide) (fun c_4 => ?_) (fun c_4 => absurd (by rw [show i = y + 1 by omega]; exact nI_lt (by omega) (by omega)) c_4)
      refine lv_iconst (v := 1) hx hb dX1_hasNoCourseFrom_24 (by decide) ?_
      exact retI F hr rfl (fun _ => 0) hH rfl (Nat.le_of_ble_eq_true rfl) (Nat.le_of_ble_eq_true rfl) dX1_hasNoCourseFrom_25
    | succ n9 ih =>
      intro i hc9 hxi H locs ls hH hl
      refine lv_iload_n hx hb dX1_hasNoCourseFrom_2 rfl (lv_at hl 0 rfl) ?_
      refine lv_iload_n hx hb dX1_hasNoCourseFrom_3 rfl (lv_at hl 3 rfl) ?_
      refine lv_icmp_gt (tgt := 24) hx hb dX1_hasNoCourseFrom_4 (by decide) (fun c_4 => absurd c_4 (nI_nlt (by omega) (by omega))) (fun c_4 => ?_)
      refine lv_aload_n hx hb dX1_hasNoCourseFrom_7 rfl (lv_at hl 1 rfl) ?_
      refine rget (C := RX1) (T := TX1) (N := 12) (ref := RX1) F in_X1_hasNoCourseFrom_X1 hH 0 rfl rfl 3 (by decide) (by decide +kernel) (fun _ h9 => h9) (v := .ref (d 3)) rfl dX1_hasNoCourseFrom_8 ?_
      refine lv_iload_n hx hb dX1_hasNoCourseFrom_11 rfl (lv_at hl 0 rfl) ?_
      refine riald F hH 2 (n := 201) (f := a 3) rfl i rfl (by omega) (by decide) dX1_hasNoCourseFrom_12 ?_
      refine lv_if_le (tgt := 18) hx hb dX1_hasNoCourseFrom_13 (by decide) (fun c_13 => ?_) (fun c_13 => absurd (hno i hxi (by omega)) c_13)
      refine lv_iinc (v := (nI (i + 1))) (lv' := [(3, .int (nI (i + 1))), (0, .ref (d 0)), (1, .int (nI x)), (2, .int (nI y))]) hx hb dX1_hasNoCourseFrom_18 hl (k := 0) rfl (nI_1 i) (by decide) rfl (fun ls hl => ?_)
      refine lv_goto (tgt := 2) hx hb dX1_hasNoCourseFrom_21 (by decide) ?_
      exact ih (i + 1) (by omega) (by omega) _ _ _ hH (lv_sub hl [0, 1, 2, 3] (rfl))
  exact loop (y + 1 - x) x (by omega) (Nat.le_refl x) _ _ _ hH (lv_sub hl [0, 1, 2, 3] (rfl))

set_option maxHeartbeats 4000000 in
set_option maxRecDepth 100000 in
theorem c_X1_hasNoCourseFrom_0 (l : Launch) (G : Gx) (d : Nat → Nat) (f : Nat → Int32) (a : Nat → Nat → Int32) (x y : Nat) (hxy : x ≤ y) (hy : y ≤ 200) (hex : ∃ z, x ≤ z ∧ z ≤ y ∧ ¬ a 3 z ≤ 0) : MI l yX1_hasNoCourseFrom wsX1_hasNoCourseFrom ({ frames := 0, cells := 0, slots := 0, locals := 0 } : Room) [.ref (d 0), .int (nI x), .int (nI y)] G (wW G d f a) (fun u => wW G d f a) 0 := by
  refine ofMI (cc := cX1_hasNoCourseFrom) (maxL := 4) (ret := (some .boolean)) (by decide) rfl (Nat.le_of_ble_eq_true rfl) (fun p e s m below meth c A ls F hr hnm hH hl => ?_)
  have F : Fx G p s m _ meth c cX1_hasNoCourseFrom 4 wsX1_hasNoCourseFrom RX1 A := F
  have hx := F.1.1
  have hb := F.1.2.1
  have hl : lv_has ls 4 [(0, .ref (d 0)), (1, .int (nI x)), (2, .int (nI y))] := hl
  refine lv_iload_n hx hb dX1_hasNoCourseFrom_0 rfl (lv_at hl 1 rfl) ?_
  refine lv_istore_n (lv' := [(3, .int (nI x)), (0, .ref (d 0)), (1, .int (nI x)), (2, .int (nI y))]) hx hb dX1_hasNoCourseFrom_1 rfl hl (by decide) rfl (fun ls hl => ?_)
  have loop : ∀ (n9 : Nat) (i : Nat) (hc9 : i + n9 = y + 1) (hxi : x ≤ i) (he : ∃ z, i ≤ z ∧ z ≤ y ∧ ¬ a 3 z ≤ 0) (H : Heap) (locs : List Loc) (ls : Array Slot), HH G A s (wW G d f a) H locs → lv_has ls 4 [(3, .int (nI i)), (0, .ref (d 0)), (1, .int (nI x)), (2, .int (nI y))] → W p l e ({ frames := 0, cells := 0, slots := 0, locals := 0 } : Room) s m [.ref (d 0), .int (nI x), .int (nI y)].toArray below meth c H locs 0 0 (EnI G A below s [.ref (d 0), .int (nI x), .int (nI y)].toArray ({ frames := 0, cells := 0, slots := 0, locals := 0 } : Room) (fun u => wW G d f a) 0) (F0 m 2 ls []) := by
    intro n9
    induction n9 with
    | zero =>
      intro i hc9 hxi he H locs ls hH hl
      exact absurd he (by rintro ⟨z, h1, h2, -⟩; omega)
    | succ n9 ih =>
      intro i hc9 hxi he H locs ls hH hl
      refine lv_iload_n hx hb dX1_hasNoCourseFrom_2 rfl (lv_at hl 0 rfl) ?_
      refine lv_iload_n hx hb dX1_hasNoCourseFrom_3 rfl (lv_at hl 3 rfl) ?_
      refine lv_icmp_gt (tgt := 24) hx hb dX1_hasNoCourseFrom_4 (by decide) (fun c_4 => absurd c_4 (nI_nlt (by omega) (by omega))) (fun c_4 => ?_)
      refine lv_aload_n hx hb dX1_hasNoCourseFrom_7 rfl (lv_at hl 1 rfl) ?_
      refine rget (C := RX1) (T := TX1) (N := 12) (ref := RX1) F in_X1_hasNoCourseFrom_X1 hH 0 rfl rfl 3 (by decide) (by decide +kernel) (fun _ h9 => h9) (v := .ref (d 3)) rfl dX1_hasNoCourseFrom_8 ?_
      refine lv_iload_n hx hb dX1_hasNoCourseFrom_11 rfl (lv_at hl 0 rfl) ?_
      refine riald F hH 2 (n := 201) (f := a 3) rfl i rfl (by omega) (by decide) dX1_hasNoCourseFrom_12 ?_
      refine lv_if_le (tgt := 18) hx hb dX1_hasNoCourseFrom_13 (by decide) (fun c_13 => ?_) (fun c_13 => ?_)
      · refine lv_iinc (v := (nI (i + 1))) (lv' := [(3, .int (nI (i + 1))), (0, .ref (d 0)), (1, .int (nI x)), (2, .int (nI y))]) hx hb dX1_hasNoCourseFrom_18 hl (k := 0) rfl (nI_1 i) (by decide) rfl (fun ls hl => ?_)
        refine lv_goto (tgt := 2) hx hb dX1_hasNoCourseFrom_21 (by decide) ?_
        exact ih (i + 1) (by omega) (by omega) (by obtain ⟨z, h1, h2, h3⟩ := he; exact ⟨z, by rcases Nat.eq_or_lt_of_le h1 with e | e; exact absurd (e ▸ c_13) h3; exact e, h2, h3⟩) _ _ _ hH (lv_sub hl [0, 1, 2, 3] (rfl))
      · refine lv_iconst (v := 0) hx hb dX1_hasNoCourseFrom_16 (by decide) ?_
        exact retI F hr rfl (fun _ => 0) hH rfl (Nat.le_of_ble_eq_true rfl) (Nat.le_of_ble_eq_true rfl) dX1_hasNoCourseFrom_17
  exact loop (y + 1 - x) x (by omega) (Nat.le_refl x) hex _ _ _ hH (lv_sub hl [0, 1, 2, 3] (rfl))

