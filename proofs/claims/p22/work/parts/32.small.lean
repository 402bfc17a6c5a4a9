set_option maxHeartbeats 8000000 in
set_option maxRecDepth 100000 in
theorem c_some (l : Launch) (G : Gx) (ws : va_W) (x n : Int32) (hn : ¬ n = 0) : MI l yL_some wsL_some ({ frames := 0, cells := 0, slots := 0, locals := 0 } : Room) [.int x, .int n] G (ws) (fun u => ws) (someV x n) := by
  refine ofMI (cc := cL_some) (maxL := 2) (ret := (some .int)) (by decide) rfl (Nat.le_of_ble_eq_true rfl) (fun p e s m below meth c A ls F hr hnm hH hl => ?_)
  have F : Fx G p s m _ meth c cL_some 2 wsL_some RL A := F
  have hx := F.1.1
  have hb := F.1.2.1
  have hl : lv_has ls 2 [(0, .int x), (1, .int n)] := hl
  refine lv_iload_n hx hb dL_some_0 rfl (lv_at hl 0 rfl) ?_
  refine lv_iconst (v := 1) hx hb dL_some_1 (by decide) ?_
  refine lv_iushr (v := ((x).toUInt32 >>> (((1) : Int32).toUInt32 &&& Int32.toUInt32 31)).toInt32) hx hb dL_some_2 rfl ?_
  refine lv_iload_n hx hb dL_some_3 rfl (lv_at hl 1 rfl) ?_
  refine lv_irem hx hb dL_some_4 hn ?_
  exact retI F hr rfl (fun _ => 0) hH rfl (Nat.le_of_ble_eq_true rfl) (Nat.le_of_ble_eq_true rfl) dL_some_5

set_option maxHeartbeats 4000000 in
set_option maxRecDepth 100000 in
theorem c_cell (l : Launch) (G : Gx) (b L : Nat) (xs : Nat → Int32) (hL : L ≤ 260) (k : Nat) (hk : k < 200) : MC l yL_cell wsL_cell ({ frames := 0, cells := 0, slots := 0, locals := 0 } : Room) [.ref b, .int (nI k)] G b L xs := by
  refine ofMC (cc := cL_cell) (maxL := 3) (ret := (some .int)) (by decide) rfl (Nat.le_of_ble_eq_true rfl) (fun p e s m below meth c A ls F hr hX hbl hbA hH hl => ?_)
  have F : Fx G p s m _ meth c cL_cell 3 wsL_cell RL A := F
  have hx := F.1.1
  have hb := F.1.2.1
  have hl : lv_has ls 3 [(0, .ref b), (1, .int (nI k))] := hl
  refine lv_iload_n hx hb dL_cell_0 rfl (lv_at hl 1 rfl) ?_
  refine lv_aload_n hx hb dL_cell_1 rfl (lv_at hl 0 rfl) ?_
  refine va_slen hx hb hX hbl hbA hH.2.2 dL_cell_2 ?_
  have j20 : ∀ (v : Int32) (H : Heap) (locs : List Loc) (ls : Array Slot), HH G A s ([]) H locs → lv_has ls 3 [(0, .ref b), (1, .int (nI k))] → W p l e ({ frames := 0, cells := 0, slots := 0, locals := 0 } : Room) s m [.ref b, .int (nI k)].toArray below meth c H locs (0) (0) (EnC G A below s [.ref b, .int (nI k)].toArray ({ frames := 0, cells := 0, slots := 0, locals := 0 } : Room)) (F0 m 20 ls [.int v]) := by
    intro v H locs ls hH hl
    refine lv_istore_n (lv' := [(2, .int v), (0, .ref b), (1, .int (nI k))]) hx hb dL_cell_20 rfl hl (by decide) rfl (fun ls hl => ?_)
    refine lv_iload_n hx hb dL_cell_21 rfl (lv_at hl 0 rfl) ?_
    refine lv_iload_n hx hb dL_cell_22 rfl (lv_at hl 0 rfl) ?_
    refine lv_bipush (v := 14) hx hb dL_cell_23 (by decide) ?_
    refine lv_iushr (v := ((v).toUInt32 >>> (((14) : Int32).toUInt32 &&& Int32.toUInt32 31)).toInt32) hx hb dL_cell_25 rfl ?_
    refine lv_ixor hx hb dL_cell_26 ?_
    refine lv_ldc hx hb F.1.2.2.2.1 (F.1.2.2.2.2 (.constant RL 7 1541459225) (by decide +kernel)) dL_cell_27 ?_
    refine lv_imul hx hb dL_cell_29 ?_
    refine lv_sipush (v := 141) hx hb dL_cell_30 (by decide) ?_
    refine lv_iload_n hx hb dL_cell_33 rfl (lv_at hl 2 rfl) ?_
    refine lv_imul hx hb dL_cell_34 ?_
    refine lv_iadd hx hb dL_cell_35 ?_
    exact retC F hr rfl hH (Nat.le_of_ble_eq_true rfl) (Nat.le_of_ble_eq_true rfl) dL_cell_36
  refine lv_icmp_ge (tgt := 12) hx hb dL_cell_3 (by decide) (fun c_3 => ?_) (fun c_3 => ?_)
  · refine lv_sipush (v := 7177) hx hb dL_cell_12 (by decide) ?_
    refine lv_iload_n hx hb dL_cell_15 rfl (lv_at hl 1 rfl) ?_
    refine lv_bipush (v := 39) hx hb dL_cell_16 (by decide) ?_
    refine lv_iadd hx hb dL_cell_18 ?_
    refine lv_imul hx hb dL_cell_19 ?_
    exact j20 _ _ _ _ hH (lv_sub hl [0, 1] rfl)
  · refine lv_aload_n hx hb dL_cell_6 rfl (lv_at hl 0 rfl) ?_
    refine lv_iload_n hx hb dL_cell_7 rfl (lv_at hl 1 rfl) ?_
    refine rsld F hH hX hbl hbA (by omega) k rfl (Nat.lt_of_not_le fun h9 => c_3 (nI_le h9 (by omega))) dL_cell_8 ?_
    refine lv_goto (tgt := 20) hx hb dL_cell_9 (by decide) ?_
    exact j20 _ _ _ _ hH (lv_sub hl [0, 1] rfl)

set_option maxHeartbeats 8000000 in
set_option maxRecDepth 100000 in
theorem c_all (l : Launch) (G : Gx) (q : Nat → Nat) (n nc t : Nat) (fl fd : Int32) (k : Nat → Int32) (wd : Nat → Nat → Nat) (wf : Nat → Nat → Int32) (wa : Nat → Nat → Nat → Int32) (cd : Nat → Nat) (cf : Nat → Nat → Int32) (hn : n ≤ 8) : ML l yL_all wsL_all ({ frames := 3, cells := 0, slots := 0, locals := 80 } : Room) [.ref (q 0)] G (sW G q n nc t fl fd k wd wf wa cd cf) (allS n t fd wf wa) := by
  refine ofML (cc := cL_all) (maxL := 5) (ret := (some .long)) (by decide) rfl (Nat.le_of_ble_eq_true rfl) (fun p e s m below meth c A ls F hr hnm hH hl => ?_)
  have F : Fx G p s m _ meth c cL_all 5 wsL_all RL A := F
  have hx := F.1.1
  have hb := F.1.2.1
  have hl : lv_has ls 5 [(0, .ref (q 0))] := hl
  refine lv_aload_n hx hb dL_all_0 rfl (lv_at hl 0 rfl) ?_
  refine callVI (rest := []) F (c_X2_workers l G q n nc t fl fd k wd wf wa cd cf) gL_all_X2_workers rfl hdX2_workers ⟨Nat.le_of_ble_eq_true rfl, Nat.le_of_ble_eq_true rfl⟩ ([] : va_W) ([] : va_W) hH (by simp only [List.nil_append, List.append_nil]) ⟨0, 2, _, _, rfl, rfl, rfl⟩ rfl hl.1 (Nat.le_of_ble_eq_true rfl) dL_all_1 ⟨(Nat.le_of_ble_eq_true rfl), (Nat.le_of_ble_eq_true rfl)⟩ rfl (fun u H locs hH => ?_)
  rw [List.nil_append, List.append_nil] at hH
  have hH : HH G A s (sW G q n nc t fl fd k wd wf wa cd cf) H locs := hH
  refine lv_i2l hx hb dL_all_4 rfl ?_
  refine lv_ldc2 hx hb F.1.2.2.2.1 (F.1.2.2.2.2 (.constantLong RL 81 9) (by decide +kernel)) dL_all_5 ?_
  refine lv_lmul hx hb dL_all_8 ?_
  refine lv_aload_n hx hb dL_all_9 rfl (lv_at hl 0 rfl) ?_
  refine callVI (rest := [.long (((nI n).toInt64) * 9)]) F (c_X2_week l G q n nc t fl fd k wd wf wa cd cf) gL_all_X2_week rfl hdX2_week ⟨Nat.le_of_ble_eq_true rfl, Nat.le_of_ble_eq_true rfl⟩ ([] : va_W) ([] : va_W) hH (by simp only [List.nil_append, List.append_nil]) ⟨0, 2, _, _, rfl, rfl, rfl⟩ rfl hl.1 (Nat.le_of_ble_eq_true rfl) dL_all_10 ⟨(Nat.le_of_ble_eq_true rfl), (Nat.le_of_ble_eq_true rfl)⟩ rfl (fun u H locs hH => ?_)
  rw [List.nil_append, List.append_nil] at hH
  have hH : HH G A s (sW G q n nc t fl fd k wd wf wa cd cf) H locs := hH
  refine lv_i2l hx hb dL_all_13 rfl ?_
  refine lv_ladd hx hb dL_all_14 ?_
  refine lv_ldc2 hx hb F.1.2.2.2.1 (F.1.2.2.2.2 (.constantLong RL 86 1000003) (by decide +kernel)) dL_all_15 ?_
  refine lv_lmul hx hb dL_all_18 ?_
  refine lv_aload_n hx hb dL_all_19 rfl (lv_at hl 0 rfl) ?_
  refine callVI (rest := [.long (((((nI n).toInt64) * 9) + ((nI t).toInt64)) * 1000003)]) F (c_X2_firmOwes l G q n nc t fl fd k wd wf wa cd cf) gL_all_X2_firmOwes rfl hdX2_firmOwes ⟨Nat.le_of_ble_eq_true rfl, Nat.le_of_ble_eq_true rfl⟩ ([] : va_W) ([] : va_W) hH (by simp only [List.nil_append, List.append_nil]) ⟨0, 2, _, _, rfl, rfl, rfl⟩ rfl hl.1 (Nat.le_of_ble_eq_true rfl) dL_all_20 ⟨(Nat.le_of_ble_eq_true rfl), (Nat.le_of_ble_eq_true rfl)⟩ rfl (fun u H locs hH => ?_)
  rw [List.nil_append, List.append_nil] at hH
  have hH : HH G A s (sW G q n nc t fl fd k wd wf wa cd cf) H locs := hH
  refine lv_i2l hx hb dL_all_23 rfl ?_
  refine lv_ladd hx hb dL_all_24 ?_
  refine lv_lstore_n (lv' := [(1, .long ((((((nI n).toInt64) * 9) + ((nI t).toInt64)) * 1000003) + (fd.toInt64))), (0, .ref (q 0))]) hx hb dL_all_25 rfl hl (by decide) rfl (fun ls hl => ?_)
  refine lv_iconst (v := 0) hx hb dL_all_26 (by decide) ?_
  refine lv_istore_n (lv' := [(3, .int 0), (1, .long ((((((nI n).toInt64) * 9) + ((nI t).toInt64)) * 1000003) + (fd.toInt64))), (0, .ref (q 0))]) hx hb dL_all_27 rfl hl (by decide) rfl (fun ls hl => ?_)
  have lp : ∀ (n_lp : Nat) (i : Nat) (hc_lp : i + n_lp = n) (H : Heap) (locs : List Loc) (ls : Array Slot), HH G A s (sW G q n nc t fl fd k wd wf wa cd cf) H locs → lv_has ls 5 [(3, .int (nI i)), (1, .long (alW n t fd wf wa i)), (0, .ref (q 0))] → W p l e ({ frames := 3, cells := 0, slots := 0, locals := 80 } : Room) s m [.ref (q 0)].toArray below meth c H locs (0 + 0 + 0 + 0) (0 + 0 + 0 + 0) (EnL G A below s [.ref (q 0)].toArray ({ frames := 3, cells := 0, slots := 0, locals := 80 } : Room) (sW G q n nc t fl fd k wd wf wa cd cf) (allS n t fd wf wa)) (F0 m 28 ls []) := by
    intro n_lp
    induction n_lp with
    | zero =>
      intro i hc_lp H locs ls hH hl
      refine lv_iload_n hx hb dL_all_28 rfl (lv_at hl 0 rfl) ?_
      refine lv_aload_n hx hb dL_all_29 rfl (lv_at hl 2 rfl) ?_
      refine callVI (rest := [.int (nI i)]) F (c_X2_workers l G q n nc t fl fd k wd wf wa cd cf) gL_all_X2_workers rfl hdX2_workers ⟨Nat.le_of_ble_eq_true rfl, Nat.le_of_ble_eq_true rfl⟩ ([] : va_W) ([] : va_W) hH (by simp only [List.nil_append, List.append_nil]) ⟨0, 2, _, _, rfl, rfl, rfl⟩ rfl hl.1 (Nat.le_of_ble_eq_true rfl) dL_all_30 ⟨(Nat.le_of_ble_eq_true rfl), (Nat.le_of_ble_eq_true rfl)⟩ rfl (fun u H locs hH => ?_)
      rw [List.nil_append, List.append_nil] at hH
      have hH : HH G A s (sW G q n nc t fl fd k wd wf wa cd cf) H locs := hH
      refine lv_icmp_ge (tgt := 129) hx hb dL_all_33 (by decide) (fun c_33 => ?_) (fun c_33 => absurd (nI_le (by omega) (by omega)) c_33)
      refine lv_lload_n hx hb dL_all_129 rfl (lv_at hl 1 rfl) ?_
      exact retL F hr hH (by rw [show i = n by omega]; rfl) (Nat.le_of_ble_eq_true rfl) (Nat.le_of_ble_eq_true rfl) dL_all_130
    | succ n_lp ih_lp =>
      intro i hc_lp H locs ls hH hl
      have hi : i < n := by omega
      refine lv_iload_n hx hb dL_all_28 rfl (lv_at hl 0 rfl) ?_
      refine lv_aload_n hx hb dL_all_29 rfl (lv_at hl 2 rfl) ?_
      refine callVI (rest := [.int (nI i)]) F (c_X2_workers l G q n nc t fl fd k wd wf wa cd cf) gL_all_X2_workers rfl hdX2_workers ⟨Nat.le_of_ble_eq_true rfl, Nat.le_of_ble_eq_true rfl⟩ ([] : va_W) ([] : va_W) hH (by simp only [List.nil_append, List.append_nil]) ⟨0, 2, _, _, rfl, rfl, rfl⟩ rfl hl.1 (Nat.le_of_ble_eq_true rfl) dL_all_30 ⟨(Nat.le_of_ble_eq_true rfl), (Nat.le_of_ble_eq_true rfl)⟩ rfl (fun u H locs hH => ?_)
      rw [List.nil_append, List.append_nil] at hH
      have hH : HH G A s (sW G q n nc t fl fd k wd wf wa cd cf) H locs := hH
      refine lv_icmp_ge (tgt := 129) hx hb dL_all_33 (by decide) (fun c_33 => absurd c_33 (nI_ge (by omega) (by omega))) (fun c_33 => ?_)
      refine lv_lload_n hx hb dL_all_36 rfl (lv_at hl 1 rfl) ?_
      refine lv_ldc2 hx hb F.1.2.2.2.1 (F.1.2.2.2.2 (.constantLong RL 91 211) (by decide +kernel)) dL_all_37 ?_
      refine lv_lmul hx hb dL_all_40 ?_
      refine lv_aload_n hx hb dL_all_41 rfl (lv_at hl 2 rfl) ?_
      refine lv_iload_n hx hb dL_all_42 rfl (lv_at hl 0 rfl) ?_
      refine callVI (rest := [.long ((alW n t fd wf wa i) * 211)]) F (c_X2_cutWeeks_1 l G q n nc t fl fd k wd wf wa cd cf hn i hi) gL_all_X2_cutWeeks rfl hdX2_cutWeeks ⟨Nat.le_of_ble_eq_true rfl, Nat.le_of_ble_eq_true rfl⟩ ([] : va_W) ([] : va_W) hH (by simp only [List.nil_append, List.append_nil]) ⟨0, 2, _, _, rfl, rfl, rfl⟩ rfl hl.1 (Nat.le_of_ble_eq_true rfl) dL_all_43 ⟨(Nat.le_of_ble_eq_true rfl), (Nat.le_of_ble_eq_true rfl)⟩ rfl (fun u H locs hH => ?_)
      rw [List.nil_append, List.append_nil] at hH
      have hH : HH G A s (sW G q n nc t fl fd k wd wf wa cd cf) H locs := hH
      refine lv_i2l hx hb dL_all_46 rfl ?_
      refine lv_ladd hx hb dL_all_47 ?_
      refine lv_ldc2 hx hb F.1.2.2.2.1 (F.1.2.2.2.2 (.constantLong RL 86 1000003) (by decide +kernel)) dL_all_48 ?_
      refine lv_lmul hx hb dL_all_51 ?_
      refine lv_aload_n hx hb dL_all_52 rfl (lv_at hl 2 rfl) ?_
      refine lv_iload_n hx hb dL_all_53 rfl (lv_at hl 0 rfl) ?_
      refine callVI (rest := [.long ((((alW n t fd wf wa i) * 211) + ((wf i 9).toInt64)) * 1000003)]) F (c_X2_owes_1 l G q n nc t fl fd k wd wf wa cd cf hn i hi) gL_all_X2_owes rfl hdX2_owes ⟨Nat.le_of_ble_eq_true rfl, Nat.le_of_ble_eq_true rfl⟩ ([] : va_W) ([] : va_W) hH (by simp only [List.nil_append, List.append_nil]) ⟨0, 2, _, _, rfl, rfl, rfl⟩ rfl hl.1 (Nat.le_of_ble_eq_true rfl) dL_all_54 ⟨(Nat.le_of_ble_eq_true rfl), (Nat.le_of_ble_eq_true rfl)⟩ rfl (fun u H locs hH => ?_)
      rw [List.nil_append, List.append_nil] at hH
      have hH : HH G A s (sW G q n nc t fl fd k wd wf wa cd cf) H locs := hH
      refine lv_i2l hx hb dL_all_57 rfl ?_
      refine lv_ladd hx hb dL_all_58 ?_
      refine lv_ldc2 hx hb F.1.2.2.2.1 (F.1.2.2.2.2 (.constantLong RL 86 1000003) (by decide +kernel)) dL_all_59 ?_
      refine lv_lmul hx hb dL_all_62 ?_
      refine lv_aload_n hx hb dL_all_63 rfl (lv_at hl 2 rfl) ?_
      refine lv_iload_n hx hb dL_all_64 rfl (lv_at hl 0 rfl) ?_
      refine callVI (rest := [.long ((((((alW n t fd wf wa i) * 211) + ((wf i 9).toInt64)) * 1000003) + ((wf i 11).toInt64)) * 1000003)]) F (c_X2_net_1 l G q n nc t fl fd k wd wf wa cd cf hn i hi) gL_all_X2_net rfl hdX2_net ⟨Nat.le_of_ble_eq_true rfl, Nat.le_of_ble_eq_true rfl⟩ ([] : va_W) ([] : va_W) hH (by simp only [List.nil_append, List.append_nil]) ⟨0, 2, _, _, rfl, rfl, rfl⟩ rfl hl.1 (Nat.le_of_ble_eq_true rfl) dL_all_65 ⟨(Nat.le_of_ble_eq_true rfl), (Nat.le_of_ble_eq_true rfl)⟩ rfl (fun u H locs hH => ?_)
      rw [List.nil_append, List.append_nil] at hH
      have hH : HH G A s (sW G q n nc t fl fd k wd wf wa cd cf) H locs := hH
      refine lv_i2l hx hb dL_all_68 rfl ?_
      refine lv_ladd hx hb dL_all_69 ?_
      refine lv_lstore_n (lv' := [(1, .long (((((((alW n t fd wf wa i) * 211) + ((wf i 9).toInt64)) * 1000003) + ((wf i 11).toInt64)) * 1000003) + ((wf i 10 - wf i 11).toInt64))), (3, .int (nI i)), (0, .ref (q 0))]) hx hb dL_all_70 rfl hl (by decide) rfl (fun ls hl => ?_)
      refine lv_iconst (v := 0) hx hb dL_all_71 (by decide) ?_
      refine lv_istore (lv' := [(4, .int 0), (1, .long (((((((alW n t fd wf wa i) * 211) + ((wf i 9).toInt64)) * 1000003) + ((wf i 11).toInt64)) * 1000003) + ((wf i 10 - wf i 11).toInt64))), (3, .int (nI i)), (0, .ref (q 0))]) hx hb dL_all_72 hl (by decide) rfl (fun ls hl => ?_)
      have lq : ∀ (n_lq : Nat) (j : Nat) (hc_lq : j + n_lq = 15) (H : Heap) (locs : List Loc) (ls : Array Slot), HH G A s (sW G q n nc t fl fd k wd wf wa cd cf) H locs → lv_has ls 5 [(4, .int (nI (4 * j))), (3, .int (nI i)), (1, .long (alK n t fd wf wa i j)), (0, .ref (q 0))] → W p l e ({ frames := 3, cells := 0, slots := 0, locals := 80 } : Room) s m [.ref (q 0)].toArray below meth c H locs (0 + 0 + 0 + 0 + 0 + 0 + 0 + 0) (0 + 0 + 0 + 0 + 0 + 0 + 0 + 0) (EnL G A below s [.ref (q 0)].toArray ({ frames := 3, cells := 0, slots := 0, locals := 80 } : Room) (sW G q n nc t fl fd k wd wf wa cd cf) (allS n t fd wf wa)) (F0 m 74 ls []) := by
        intro n_lq
        induction n_lq with
        | zero =>
          intro j hc_lq H locs ls hH hl
          refine lv_iload hx hb dL_all_74 (lv_at hl 0 rfl) ?_
          refine lv_bipush (v := 60) hx hb dL_all_76 (by decide) ?_
          refine lv_icmp_ge (tgt := 123) hx hb dL_all_78 (by decide) (fun c_78 => ?_) (fun c_78 => absurd (by rw [show j = 15 by omega]; decide) c_78)
          refine lv_iinc (v := (nI (i + 1))) (lv' := [(3, .int (nI (i + 1))), (4, .int (nI (4 * j))), (1, .long (alK n t fd wf wa i j)), (0, .ref (q 0))]) hx hb dL_all_123 hl (k := 1) rfl (nI_1 i) (by decide) rfl (fun ls hl => ?_)
          refine lv_goto (tgt := 28) hx hb dL_all_126 (by decide) ?_
          refine W.widen (k := 0 + 0 + 0 + 0) (n := 0 + 0 + 0 + 0) (Nat.le_of_ble_eq_true rfl) (Nat.le_of_ble_eq_true rfl) ?_
          exact ih_lp (i + 1) (by omega) _ _ _ hH (lv_sub hl [0, 2, 3] (by rw [show j = 15 by omega]; rfl))
        | succ n_lq ih_lq =>
          intro j hc_lq H locs ls hH hl
          refine lv_iload hx hb dL_all_74 (lv_at hl 0 rfl) ?_
          refine lv_bipush (v := 60) hx hb dL_all_76 (by decide) ?_
          refine lv_icmp_ge (tgt := 123) hx hb dL_all_78 (by decide) (fun c_78 => absurd c_78 (nI_ge (a := 4 * j) (b := 60) (by omega) (by decide))) (fun c_78 => ?_)
          refine lv_lload_n hx hb dL_all_81 rfl (lv_at hl 2 rfl) ?_
          refine lv_ldc2 hx hb F.1.2.2.2.1 (F.1.2.2.2.2 (.constantLong RL 93 41) (by decide +kernel)) dL_all_82 ?_
          refine lv_lmul hx hb dL_all_85 ?_
          refine lv_aload_n hx hb dL_all_86 rfl (lv_at hl 3 rfl) ?_
          refine lv_iload_n hx hb dL_all_87 rfl (lv_at hl 1 rfl) ?_
          refine lv_iload hx hb dL_all_88 (lv_at hl 0 rfl) ?_
          refine callVI (rest := [.long ((alK n t fd wf wa i j) * 41)]) F (c_X2_cut_1 l G q n nc t fl fd k wd wf wa cd cf hn i hi (4 * j) (by omega)) gL_all_X2_cut rfl hdX2_cut ⟨Nat.le_of_ble_eq_true rfl, Nat.le_of_ble_eq_true rfl⟩ ([] : va_W) ([] : va_W) hH (by simp only [List.nil_append, List.append_nil]) ⟨0, 2, _, _, rfl, rfl, rfl⟩ rfl hl.1 (Nat.le_of_ble_eq_true rfl) dL_all_90 ⟨(Nat.le_of_ble_eq_true rfl), (Nat.le_of_ble_eq_true rfl)⟩ rfl (fun u H locs hH => ?_)
          rw [List.nil_append, List.append_nil] at hH
          have hH : HH G A s (sW G q n nc t fl fd k wd wf wa cd cf) H locs := hH
          refine lv_i2l hx hb dL_all_93 rfl ?_
          refine lv_ladd hx hb dL_all_94 ?_
          refine lv_ldc2 hx hb F.1.2.2.2.1 (F.1.2.2.2.2 (.constantLong RL 95 2) (by decide +kernel)) dL_all_95 ?_
          refine lv_lmul hx hb dL_all_98 ?_
          refine lv_aload_n hx hb dL_all_99 rfl (lv_at hl 3 rfl) ?_
          refine lv_iload_n hx hb dL_all_100 rfl (lv_at hl 1 rfl) ?_
          refine lv_iload hx hb dL_all_101 (lv_at hl 0 rfl) ?_
          refine callVI (rest := [.long ((((alK n t fd wf wa i j) * 41) + ((wa i 2 (4 * j)).toInt64)) * 2)]) F (c_X2_isFilled_1 l G q n nc t fl fd k wd wf wa cd cf hn i hi (4 * j) (by omega)) gL_all_X2_isFilled rfl hdX2_isFilled ⟨Nat.le_of_ble_eq_true rfl, Nat.le_of_ble_eq_true rfl⟩ ([] : va_W) ([] : va_W) hH (by simp only [List.nil_append, List.append_nil]) ⟨0, 2, _, _, rfl, rfl, rfl⟩ rfl hl.1 (Nat.le_of_ble_eq_true rfl) dL_all_103 ⟨(Nat.le_of_ble_eq_true rfl), (Nat.le_of_ble_eq_true rfl)⟩ rfl (fun u H locs hH => ?_)
          rw [List.nil_append, List.append_nil] at hH
          have hH : HH G A s (sW G q n nc t fl fd k wd wf wa cd cf) H locs := hH
          refine lv_if_eq (tgt := 113) hx hb dL_all_106 (by decide) (fun c_106 => ?_) (fun c_106 => ?_)
          · have e9 := alK_0 (n := n) (t := t) (fd := fd) (wf := wf) c_106
            refine lv_iconst (v := 0) hx hb dL_all_113 (by decide) ?_
            refine lv_i2l hx hb dL_all_114 rfl ?_
            refine lv_ladd hx hb dL_all_115 ?_
            refine lv_lstore_n (lv' := [(1, .long (((((alK n t fd wf wa i j) * 41) + ((wa i 2 (4 * j)).toInt64)) * 2) + ((0 : Int32).toInt64))), (4, .int (nI (4 * j))), (3, .int (nI i)), (0, .ref (q 0))]) hx hb dL_all_116 rfl hl (by decide) rfl (fun ls hl => ?_)
            refine lv_iinc (v := (nI ((4 * j) + 4))) (lv' := [(4, .int (nI ((4 * j) + 4))), (1, .long (((((alK n t fd wf wa i j) * 41) + ((wa i 2 (4 * j)).toInt64)) * 2) + ((0 : Int32).toInt64))), (3, .int (nI i)), (0, .ref (q 0))]) hx hb dL_all_117 hl (k := 1) rfl (nI_add (4 * j) 4) (by decide) rfl (fun ls hl => ?_)
            refine lv_goto (tgt := 74) hx hb dL_all_120 (by decide) ?_
            refine W.widen (k := 0 + 0 + 0 + 0 + 0 + 0 + 0 + 0) (n := 0 + 0 + 0 + 0 + 0 + 0 + 0 + 0) (Nat.le_of_ble_eq_true rfl) (Nat.le_of_ble_eq_true rfl) ?_
            exact ih_lq (j + 1) (by omega) _ _ _ hH (lv_sub hl [0, 2, 1, 3] (by rw [e9]; rfl))
          · have e9 := alK_1 (n := n) (t := t) (fd := fd) (wf := wf) c_106
            refine lv_iconst (v := 1) hx hb dL_all_109 (by decide) ?_
            refine lv_goto (tgt := 114) hx hb dL_all_110 (by decide) ?_
            refine lv_i2l hx hb dL_all_114 rfl ?_
            refine lv_ladd hx hb dL_all_115 ?_
            refine lv_lstore_n (lv' := [(1, .long (((((alK n t fd wf wa i j) * 41) + ((wa i 2 (4 * j)).toInt64)) * 2) + ((1 : Int32).toInt64))), (4, .int (nI (4 * j))), (3, .int (nI i)), (0, .ref (q 0))]) hx hb dL_all_116 rfl hl (by decide) rfl (fun ls hl => ?_)
            refine lv_iinc (v := (nI ((4 * j) + 4))) (lv' := [(4, .int (nI ((4 * j) + 4))), (1, .long (((((alK n t fd wf wa i j) * 41) + ((wa i 2 (4 * j)).toInt64)) * 2) + ((1 : Int32).toInt64))), (3, .int (nI i)), (0, .ref (q 0))]) hx hb dL_all_117 hl (k := 1) rfl (nI_add (4 * j) 4) (by decide) rfl (fun ls hl => ?_)
            refine lv_goto (tgt := 74) hx hb dL_all_120 (by decide) ?_
            refine W.widen (k := 0 + 0 + 0 + 0 + 0 + 0 + 0 + 0) (n := 0 + 0 + 0 + 0 + 0 + 0 + 0 + 0) (Nat.le_of_ble_eq_true rfl) (Nat.le_of_ble_eq_true rfl) ?_
            exact ih_lq (j + 1) (by omega) _ _ _ hH (lv_sub hl [0, 2, 1, 3] (by rw [e9]; rfl))
      exact lq 15 0 (by omega) _ _ _ hH (lv_sub hl [0, 2, 1, 3] rfl)
  exact lp n 0 (by omega) _ _ _ hH (lv_sub hl [0, 1, 2] rfl)
