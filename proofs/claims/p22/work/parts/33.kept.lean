set_option maxHeartbeats 8000000 in
set_option maxRecDepth 100000 in
theorem c_kept (l : Launch) (hst : l.stackTraces = false) (G : Gx) (q : Nat → Nat) (n nc t : Nat) (fl fd : Int32) (k : Nat → Int32) (wd : Nat → Nat → Nat) (wf : Nat → Nat → Int32) (wa : Nat → Nat → Nat → Int32) (cd : Nat → Nat) (cf : Nat → Nat → Int32) (hI : IN n nc t fl fd k wf wa cf) : MI l yL_kept wsL_kept ({ frames := 10, cells := 32, slots := 200, locals := 240 } : Room) [.ref (q 0)] G (sW G q n nc t fl fd k wd wf wa cd cf) (fun u => sW G q n nc t fl fd k wd wf wa cd cf) 1 := by
  refine ofMI (cc := cL_kept) (maxL := 11) (ret := (some .boolean)) (by decide) rfl (Nat.le_of_ble_eq_true rfl) (fun p e s m below meth c A ls F hr hnm hH hl => ?_)
  have F : Fx G p s m _ meth c cL_kept 11 wsL_kept RL A := F
  have hx := F.1.1
  have hb := F.1.2.1
  have hl : lv_has ls 11 [(0, .ref (q 0))] := hl
  have hn : n ≤ 8 := hI.1
  have hnc : nc ≤ 10 := hI.2.1
  have ht : t ≤ 201 := hI.2.2.1
  have hW := hI.2.2.2.2.1
  obtain ⟨d, D, hd1, hD, hd2, hd3⟩ := hI.2.2.2.2.2.2
  have hd4 := cntK_le k 201
  refine lv_aload_n hx hb dL_kept_0 rfl (lv_at hl 0 rfl) ?_
  refine callVI (rest := []) F (c_X2_workers l G q n nc t fl fd k wd wf wa cd cf) gL_kept_X2_workers rfl hdX2_workers ⟨Nat.le_of_ble_eq_true rfl, Nat.le_of_ble_eq_true rfl⟩ ([] : va_W) ([] : va_W) hH (by simp only [List.nil_append, List.append_nil]) ⟨0, 2, _, _, rfl, rfl, rfl⟩ rfl hl.1 (Nat.le_of_ble_eq_true rfl) dL_kept_1 ⟨(Nat.le_of_ble_eq_true rfl), (Nat.le_of_ble_eq_true rfl)⟩ rfl (fun u H locs hH => ?_)
  rw [List.nil_append, List.append_nil] at hH
  have hH : HH G A s (sW G q n nc t fl fd k wd wf wa cd cf) H locs := hH
  refine lv_istore_n (lv' := [(1, .int (nI n)), (0, .ref (q 0))]) hx hb dL_kept_4 rfl hl (by decide) rfl (fun ls hl => ?_)
  refine lv_aload_n hx hb dL_kept_5 rfl (lv_at hl 1 rfl) ?_
  refine callVI (rest := []) F (c_X2_week l G q n nc t fl fd k wd wf wa cd cf) gL_kept_X2_week rfl hdX2_week ⟨Nat.le_of_ble_eq_true rfl, Nat.le_of_ble_eq_true rfl⟩ ([] : va_W) ([] : va_W) hH (by simp only [List.nil_append, List.append_nil]) ⟨0, 2, _, _, rfl, rfl, rfl⟩ rfl hl.1 (Nat.le_of_ble_eq_true rfl) dL_kept_6 ⟨(Nat.le_of_ble_eq_true rfl), (Nat.le_of_ble_eq_true rfl)⟩ rfl (fun u H locs hH => ?_)
  rw [List.nil_append, List.append_nil] at hH
  have hH : HH G A s (sW G q n nc t fl fd k wd wf wa cd cf) H locs := hH
  refine lv_istore_n (lv' := [(2, .int (nI t)), (1, .int (nI n)), (0, .ref (q 0))]) hx hb dL_kept_9 rfl hl (by decide) rfl (fun ls hl => ?_)
  refine lv_iload_n hx hb dL_kept_10 rfl (lv_at hl 1 rfl) ?_
  refine lv_bipush (v := 9) hx hb dL_kept_11 (by decide) ?_
  refine lv_icmp_ge (tgt := 139) hx hb dL_kept_13 (by decide) (fun c_13 => absurd c_13 (nI_ge (a := n) (b := 9) (by omega) (by decide))) (fun c_13 => ?_)
  refine lv_aload_n hx hb dL_kept_16 rfl (lv_at hl 2 rfl) ?_
  refine lv_iconst (v := 5) hx hb dL_kept_17 (by decide) ?_
  refine lv_iload_n hx hb dL_kept_18 rfl (lv_at hl 1 rfl) ?_
  refine lv_iconst (v := 0) hx hb dL_kept_19 (by decide) ?_
  refine lv_iconst (v := 0) hx hb dL_kept_20 (by decide) ?_
  refine lv_iconst (v := 0) hx hb dL_kept_21 (by decide) ?_
  refine callLI (rest := []) F (k_cut_0 l hst G q n nc t fl fd k wd wf wa cd cf hn (nI n) (Or.inr (nI_le (Nat.le_refl n) (by omega))) 0 0 0) gL_kept_L_call rfl hdL_call ⟨Nat.le_of_ble_eq_true rfl, Nat.le_of_ble_eq_true rfl⟩ ([] : va_W) ([] : va_W) hH (by simp only [List.nil_append, List.append_nil]) rfl hl.1 (Nat.le_of_ble_eq_true rfl) dL_kept_22 ⟨(Nat.le_of_ble_eq_true rfl), (Nat.le_of_ble_eq_true rfl)⟩ rfl (fun u H locs hH => ?_)
  rw [List.nil_append, List.append_nil] at hH
  have hH : HH G A s (sW G q n nc t fl fd k wd wf wa cd cf) H locs := hH
  refine lv_bipush (v := (-61)) hx hb dL_kept_25 (by decide) ?_
  refine lv_icmp_ne (tgt := 139) hx hb dL_kept_27 (by decide) (fun c_27 => absurd rfl c_27) (fun c_27 => ?_)
  refine lv_aload_n hx hb dL_kept_30 rfl (lv_at hl 2 rfl) ?_
  refine lv_bipush (v := 6) hx hb dL_kept_31 (by decide) ?_
  refine lv_iconst (v := (-1)) hx hb dL_kept_33 (by decide) ?_
  refine lv_iconst (v := 0) hx hb dL_kept_34 (by decide) ?_
  refine lv_iconst (v := 0) hx hb dL_kept_35 (by decide) ?_
  refine lv_iconst (v := 0) hx hb dL_kept_36 (by decide) ?_
  refine callLI (rest := []) F (k_isFilled_0 l hst G q n nc t fl fd k wd wf wa cd cf hn (-1) (Or.inl (by decide)) 0 0 0) gL_kept_L_call rfl hdL_call ⟨Nat.le_of_ble_eq_true rfl, Nat.le_of_ble_eq_true rfl⟩ ([] : va_W) ([] : va_W) hH (by simp only [List.nil_append, List.append_nil]) rfl hl.1 (Nat.le_of_ble_eq_true rfl) dL_kept_37 ⟨(Nat.le_of_ble_eq_true rfl), (Nat.le_of_ble_eq_true rfl)⟩ rfl (fun u H locs hH => ?_)
  rw [List.nil_append, List.append_nil] at hH
  have hH : HH G A s (sW G q n nc t fl fd k wd wf wa cd cf) H locs := hH
  refine lv_bipush (v := (-61)) hx hb dL_kept_40 (by decide) ?_
  refine lv_icmp_ne (tgt := 139) hx hb dL_kept_42 (by decide) (fun c_42 => absurd rfl c_42) (fun c_42 => ?_)
  refine lv_aload_n hx hb dL_kept_45 rfl (lv_at hl 2 rfl) ?_
  refine lv_bipush (v := 10) hx hb dL_kept_46 (by decide) ?_
  refine lv_iload_n hx hb dL_kept_48 rfl (lv_at hl 1 rfl) ?_
  refine lv_iconst (v := 0) hx hb dL_kept_49 (by decide) ?_
  refine lv_iconst (v := 0) hx hb dL_kept_50 (by decide) ?_
  refine lv_iconst (v := 0) hx hb dL_kept_51 (by decide) ?_
  refine callLI (rest := []) F (k_cutWeeks_0 l hst G q n nc t fl fd k wd wf wa cd cf hn (nI n) (Or.inr (nI_le (Nat.le_refl n) (by omega))) 0 0 0) gL_kept_L_call rfl hdL_call ⟨Nat.le_of_ble_eq_true rfl, Nat.le_of_ble_eq_true rfl⟩ ([] : va_W) ([] : va_W) hH (by simp only [List.nil_append, List.append_nil]) rfl hl.1 (Nat.le_of_ble_eq_true rfl) dL_kept_52 ⟨(Nat.le_of_ble_eq_true rfl), (Nat.le_of_ble_eq_true rfl)⟩ rfl (fun u H locs hH => ?_)
  rw [List.nil_append, List.append_nil] at hH
  have hH : HH G A s (sW G q n nc t fl fd k wd wf wa cd cf) H locs := hH
  refine lv_bipush (v := (-61)) hx hb dL_kept_55 (by decide) ?_
  refine lv_icmp_ne (tgt := 139) hx hb dL_kept_57 (by decide) (fun c_57 => absurd rfl c_57) (fun c_57 => ?_)
  refine lv_aload_n hx hb dL_kept_60 rfl (lv_at hl 2 rfl) ?_
  refine lv_bipush (v := 14) hx hb dL_kept_61 (by decide) ?_
  refine lv_iconst (v := (-1)) hx hb dL_kept_63 (by decide) ?_
  refine lv_iconst (v := 0) hx hb dL_kept_64 (by decide) ?_
  refine lv_iconst (v := 0) hx hb dL_kept_65 (by decide) ?_
  refine lv_iconst (v := 0) hx hb dL_kept_66 (by decide) ?_
  refine callLI (rest := []) F (k_owes_0 l hst G q n nc t fl fd k wd wf wa cd cf hn (-1) (Or.inl (by decide)) 0 0 0) gL_kept_L_call rfl hdL_call ⟨Nat.le_of_ble_eq_true rfl, Nat.le_of_ble_eq_true rfl⟩ ([] : va_W) ([] : va_W) hH (by simp only [List.nil_append, List.append_nil]) rfl hl.1 (Nat.le_of_ble_eq_true rfl) dL_kept_67 ⟨(Nat.le_of_ble_eq_true rfl), (Nat.le_of_ble_eq_true rfl)⟩ rfl (fun u H locs hH => ?_)
  rw [List.nil_append, List.append_nil] at hH
  have hH : HH G A s (sW G q n nc t fl fd k wd wf wa cd cf) H locs := hH
  refine lv_bipush (v := (-61)) hx hb dL_kept_70 (by decide) ?_
  refine lv_icmp_ne (tgt := 139) hx hb dL_kept_72 (by decide) (fun c_72 => absurd rfl c_72) (fun c_72 => ?_)
  refine lv_aload_n hx hb dL_kept_75 rfl (lv_at hl 2 rfl) ?_
  refine lv_bipush (v := 15) hx hb dL_kept_76 (by decide) ?_
  refine lv_iload_n hx hb dL_kept_78 rfl (lv_at hl 1 rfl) ?_
  refine lv_iconst (v := 0) hx hb dL_kept_79 (by decide) ?_
  refine lv_iconst (v := 0) hx hb dL_kept_80 (by decide) ?_
  refine lv_iconst (v := 0) hx hb dL_kept_81 (by decide) ?_
  refine callLI (rest := []) F (k_net_0 l hst G q n nc t fl fd k wd wf wa cd cf hn (nI n) (Or.inr (nI_le (Nat.le_refl n) (by omega))) 0 0 0) gL_kept_L_call rfl hdL_call ⟨Nat.le_of_ble_eq_true rfl, Nat.le_of_ble_eq_true rfl⟩ ([] : va_W) ([] : va_W) hH (by simp only [List.nil_append, List.append_nil]) rfl hl.1 (Nat.le_of_ble_eq_true rfl) dL_kept_82 ⟨(Nat.le_of_ble_eq_true rfl), (Nat.le_of_ble_eq_true rfl)⟩ rfl (fun u H locs hH => ?_)
  rw [List.nil_append, List.append_nil] at hH
  have hH : HH G A s (sW G q n nc t fl fd k wd wf wa cd cf) H locs := hH
  refine lv_bipush (v := (-61)) hx hb dL_kept_85 (by decide) ?_
  refine lv_icmp_ne (tgt := 139) hx hb dL_kept_87 (by decide) (fun c_87 => absurd rfl c_87) (fun c_87 => ?_)
  refine lv_aload_n hx hb dL_kept_90 rfl (lv_at hl 2 rfl) ?_
  refine lv_bipush (v := 13) hx hb dL_kept_91 (by decide) ?_
  refine lv_iload_n hx hb dL_kept_93 rfl (lv_at hl 0 rfl) ?_
  refine lv_iconst (v := 0) hx hb dL_kept_94 (by decide) ?_
  refine lv_iconst (v := 0) hx hb dL_kept_95 (by decide) ?_
  refine lv_iconst (v := 0) hx hb dL_kept_96 (by decide) ?_
  refine callLI (rest := []) F (k_check_2 l hst G q n nc t fl fd k wd wf wa cd cf ht (nI t) (Or.inr (nI_le (Nat.le_refl t) (by omega))) 0 0 0) gL_kept_L_call rfl hdL_call ⟨Nat.le_of_ble_eq_true rfl, Nat.le_of_ble_eq_true rfl⟩ ([] : va_W) ([] : va_W) hH (by simp only [List.nil_append, List.append_nil]) rfl hl.1 (Nat.le_of_ble_eq_true rfl) dL_kept_97 ⟨(Nat.le_of_ble_eq_true rfl), (Nat.le_of_ble_eq_true rfl)⟩ rfl (fun u H locs hH => ?_)
  rw [List.nil_append, List.append_nil] at hH
  have hH : HH G A s (sW G q n nc t fl fd k wd wf wa cd cf) H locs := hH
  refine lv_bipush (v := (-62)) hx hb dL_kept_100 (by decide) ?_
  refine lv_icmp_ne (tgt := 139) hx hb dL_kept_102 (by decide) (fun c_102 => absurd rfl c_102) (fun c_102 => ?_)
  refine lv_aload_n hx hb dL_kept_105 rfl (lv_at hl 2 rfl) ?_
  refine lv_bipush (v := 7) hx hb dL_kept_106 (by decide) ?_
  refine lv_iconst (v := 0) hx hb dL_kept_108 (by decide) ?_
  refine lv_iconst (v := 0) hx hb dL_kept_109 (by decide) ?_
  refine lv_iconst (v := 0) hx hb dL_kept_110 (by decide) ?_
  refine lv_iconst (v := 0) hx hb dL_kept_111 (by decide) ?_
  refine callLI (rest := []) F (k_pass_2 l hst G q n nc t fl fd k wd wf wa cd cf 0 (Or.inl (by decide)) 0 0 0) gL_kept_L_call rfl hdL_call ⟨Nat.le_of_ble_eq_true rfl, Nat.le_of_ble_eq_true rfl⟩ ([] : va_W) ([] : va_W) hH (by simp only [List.nil_append, List.append_nil]) rfl hl.1 (Nat.le_of_ble_eq_true rfl) dL_kept_112 ⟨(Nat.le_of_ble_eq_true rfl), (Nat.le_of_ble_eq_true rfl)⟩ rfl (fun u H locs hH => ?_)
  rw [List.nil_append, List.append_nil] at hH
  have hH : HH G A s (sW G q n nc t fl fd k wd wf wa cd cf) H locs := hH
  refine lv_bipush (v := (-62)) hx hb dL_kept_115 (by decide) ?_
  refine lv_icmp_ne (tgt := 139) hx hb dL_kept_117 (by decide) (fun c_117 => absurd rfl c_117) (fun c_117 => ?_)
  refine lv_aload_n hx hb dL_kept_120 rfl (lv_at hl 2 rfl) ?_
  refine lv_iconst (v := 4) hx hb dL_kept_121 (by decide) ?_
  refine lv_bipush (v := 101) hx hb dL_kept_122 (by decide) ?_
  refine lv_iconst (v := 0) hx hb dL_kept_124 (by decide) ?_
  refine lv_iconst (v := 0) hx hb dL_kept_125 (by decide) ?_
  refine lv_iconst (v := 0) hx hb dL_kept_126 (by decide) ?_
  refine callLI (rest := []) F (k_setFloor_2 l hst G q n nc t fl fd k wd wf wa cd cf 101 (Or.inr (by decide)) 0 0 0) gL_kept_L_call rfl hdL_call ⟨Nat.le_of_ble_eq_true rfl, Nat.le_of_ble_eq_true rfl⟩ ([] : va_W) ([] : va_W) hH (by simp only [List.nil_append, List.append_nil]) rfl hl.1 (Nat.le_of_ble_eq_true rfl) dL_kept_127 ⟨(Nat.le_of_ble_eq_true rfl), (Nat.le_of_ble_eq_true rfl)⟩ rfl (fun u H locs hH => ?_)
  rw [List.nil_append, List.append_nil] at hH
  have hH : HH G A s (sW G q n nc t fl fd k wd wf wa cd cf) H locs := hH
  refine lv_bipush (v := (-62)) hx hb dL_kept_130 (by decide) ?_
  refine lv_icmp_ne (tgt := 139) hx hb dL_kept_132 (by decide) (fun c_132 => absurd rfl c_132) (fun c_132 => ?_)
  refine lv_iconst (v := 1) hx hb dL_kept_135 (by decide) ?_
  refine lv_goto (tgt := 140) hx hb dL_kept_136 (by decide) ?_
  refine lv_istore_n (lv' := [(3, .int 1), (2, .int (nI t)), (1, .int (nI n)), (0, .ref (q 0))]) hx hb dL_kept_140 rfl hl (by decide) rfl (fun ls hl => ?_)
  refine lv_iconst (v := 0) hx hb dL_kept_141 (by decide) ?_
  refine lv_istore (lv' := [(4, .int 0), (3, .int 1), (2, .int (nI t)), (1, .int (nI n)), (0, .ref (q 0))]) hx hb dL_kept_142 hl (by decide) rfl (fun ls hl => ?_)
  refine lv_iconst (v := 0) hx hb dL_kept_144 (by decide) ?_
  refine lv_istore (lv' := [(5, .int 0), (4, .int 0), (3, .int 1), (2, .int (nI t)), (1, .int (nI n)), (0, .ref (q 0))]) hx hb dL_kept_145 hl (by decide) rfl (fun ls hl => ?_)
  have lp : ∀ (n_lp : Nat) (i : Nat) (hc_lp : i + n_lp = n) (H : Heap) (locs : List Loc) (ls : Array Slot), HH G A s (sW G q n nc t fl fd k wd wf wa cd cf) H locs → lv_has ls 11 [(5, .int (nI i)), (4, .int (nI (sumN d i))), (3, .int 1), (2, .int (nI t)), (1, .int (nI n)), (0, .ref (q 0))] → W p l e ({ frames := 10, cells := 32, slots := 200, locals := 240 } : Room) s m [.ref (q 0)].toArray below meth c H locs (8 + 2 * i) (48 + 12 * i) (EnI G A below s [.ref (q 0)].toArray ({ frames := 10, cells := 32, slots := 200, locals := 240 } : Room) (fun u => sW G q n nc t fl fd k wd wf wa cd cf) 1) (F0 m 147 ls []) := by
    intro n_lp
    induction n_lp with
    | zero =>
      intro i hc_lp H locs ls hH hl
      refine lv_iload hx hb dL_kept_147 (lv_at hl 0 rfl) ?_
      refine lv_iload_n hx hb dL_kept_149 rfl (lv_at hl 4 rfl) ?_
      refine lv_icmp_ge (tgt := 370) hx hb dL_kept_150 (by decide) (fun c_150 => ?_) (fun c_150 => absurd (nI_le (by omega) (by omega)) c_150)
      refine lv_iload_n hx hb dL_kept_370 rfl (lv_at hl 2 rfl) ?_
      refine lv_if_eq (tgt := 387) hx hb dL_kept_371 (by decide) (fun c_371 => absurd c_371 (by decide)) (fun c_371 => ?_)
      refine lv_aload_n hx hb dL_kept_374 rfl (lv_at hl 5 rfl) ?_
      refine callVI (rest := []) F (c_X2_firmOwes l G q n nc t fl fd k wd wf wa cd cf) gL_kept_X2_firmOwes rfl hdX2_firmOwes ⟨Nat.le_of_ble_eq_true rfl, Nat.le_of_ble_eq_true rfl⟩ ([] : va_W) ([] : va_W) hH (by simp only [List.nil_append, List.append_nil]) ⟨0, 2, _, _, rfl, rfl, rfl⟩ rfl hl.1 (Nat.le_of_ble_eq_true rfl) dL_kept_375 ⟨(by show 8 + 2 * i + 0 ≤ 32; omega), (by show 48 + 12 * i + 0 ≤ 200; omega)⟩ rfl (fun u H locs hH => ?_)
      rw [List.nil_append, List.append_nil] at hH
      have hH : HH G A s (sW G q n nc t fl fd k wd wf wa cd cf) H locs := hH
      refine lv_iload hx hb dL_kept_378 (lv_at hl 1 rfl) ?_
      refine lv_icmp_lt (tgt := 387) hx hb dL_kept_380 (by decide) (fun c_380 => absurd c_380 (by rw [hD, show i = n by omega]; exact nI_nlt hd2 (by omega))) (fun c_380 => ?_)
      refine lv_iconst (v := 1) hx hb dL_kept_383 (by decide) ?_
      refine lv_goto (tgt := 388) hx hb dL_kept_384 (by decide) ?_
      exact retI F hr rfl (fun _ => 0) hH rfl (by show 8 + 2 * i + 0 ≤ 32; omega) (by show 48 + 12 * i + 0 ≤ 200; omega) dL_kept_388
    | succ n_lp ih_lp =>
      intro i hc_lp H locs ls hH hl
      have hi : i < n := by omega
      have hWi := hW i hi
      refine lv_iload hx hb dL_kept_147 (lv_at hl 0 rfl) ?_
      refine lv_iload_n hx hb dL_kept_149 rfl (lv_at hl 4 rfl) ?_
      refine lv_icmp_ge (tgt := 370) hx hb dL_kept_150 (by decide) (fun c_150 => absurd c_150 (nI_ge (by omega) (by omega))) (fun c_150 => ?_)
      refine lv_iload_n hx hb dL_kept_153 rfl (lv_at hl 2 rfl) ?_
      refine lv_if_eq (tgt := 370) hx hb dL_kept_154 (by decide) (fun c_154 => absurd c_154 (by decide)) (fun c_154 => ?_)
      refine lv_aload_n hx hb dL_kept_157 rfl (lv_at hl 5 rfl) ?_
      refine lv_iload hx hb dL_kept_158 (lv_at hl 0 rfl) ?_
      refine callVI (rest := []) F (c_X2_owes_1 l G q n nc t fl fd k wd wf wa cd cf hn i hi) gL_kept_X2_owes rfl hdX2_owes ⟨Nat.le_of_ble_eq_true rfl, Nat.le_of_ble_eq_true rfl⟩ ([] : va_W) ([] : va_W) hH (by simp only [List.nil_append, List.append_nil]) ⟨0, 2, _, _, rfl, rfl, rfl⟩ rfl hl.1 (Nat.le_of_ble_eq_true rfl) dL_kept_160 ⟨(by show 8 + 2 * i + 0 ≤ 32; omega), (by show 48 + 12 * i + 0 ≤ 200; omega)⟩ rfl (fun u H locs hH => ?_)
      rw [List.nil_append, List.append_nil] at hH
      have hH : HH G A s (sW G q n nc t fl fd k wd wf wa cd cf) H locs := hH
      refine lv_ineg hx hb dL_kept_163 ?_
      refine lv_istore (lv' := [(6, .int (-(wf i 11))), (5, .int (nI i)), (4, .int (nI (sumN d i))), (3, .int 1), (2, .int (nI t)), (1, .int (nI n)), (0, .ref (q 0))]) hx hb dL_kept_164 hl (by decide) rfl (fun ls hl => ?_)
      refine lv_iconst (v := 0) hx hb dL_kept_166 (by decide) ?_
      refine lv_istore (lv' := [(7, .int 0), (6, .int (-(wf i 11))), (5, .int (nI i)), (4, .int (nI (sumN d i))), (3, .int 1), (2, .int (nI t)), (1, .int (nI n)), (0, .ref (q 0))]) hx hb dL_kept_167 hl (by decide) rfl (fun ls hl => ?_)
      refine lv_iconst (v := 0) hx hb dL_kept_169 (by decide) ?_
      refine lv_istore (lv' := [(8, .int 0), (7, .int 0), (6, .int (-(wf i 11))), (5, .int (nI i)), (4, .int (nI (sumN d i))), (3, .int 1), (2, .int (nI t)), (1, .int (nI n)), (0, .ref (q 0))]) hx hb dL_kept_170 hl (by decide) rfl (fun ls hl => ?_)
      have lq : ∀ (n_lq : Nat) (j : Nat) (hc_lq : j + n_lq = t) (H : Heap) (locs : List Loc) (ls : Array Slot), HH G A s (sW G q n nc t fl fd k wd wf wa cd cf) H locs → lv_has ls 11 [(8, .int (nI j)), (7, .int (nI (cntQ (wa i 2) (wa i 4) (wa i 5) j))), (6, .int (netP (-(wf i 11)) (wa i 4) (wa i 5) j)), (5, .int (nI i)), (4, .int (nI (sumN d i))), (3, .int 1), (2, .int (nI t)), (1, .int (nI n)), (0, .ref (q 0))] → W p l e ({ frames := 10, cells := 32, slots := 200, locals := 240 } : Room) s m [.ref (q 0)].toArray below meth c H locs (8 + 2 * i) (48 + 12 * i) (EnI G A below s [.ref (q 0)].toArray ({ frames := 10, cells := 32, slots := 200, locals := 240 } : Room) (fun u => sW G q n nc t fl fd k wd wf wa cd cf) 1) (F0 m 172 ls []) := by
        intro n_lq
        induction n_lq with
        | zero =>
          intro j hc_lq H locs ls hH hl
          refine lv_iload hx hb dL_kept_172 (lv_at hl 0 rfl) ?_
          refine lv_iload_n hx hb dL_kept_174 rfl (lv_at hl 6 rfl) ?_
          refine lv_icmp_ge (tgt := 279) hx hb dL_kept_175 (by decide) (fun c_175 => ?_) (fun c_175 => absurd (nI_le (by omega) (by omega)) c_175)
          refine lv_iload hx hb dL_kept_279 (lv_at hl 4 rfl) ?_
          refine lv_aload_n hx hb dL_kept_281 rfl (lv_at hl 8 rfl) ?_
          refine lv_iload hx hb dL_kept_282 (lv_at hl 3 rfl) ?_
          refine callVI (rest := [.int (nI (sumN d i))]) F (c_X2_owes_1 l G q n nc t fl fd k wd wf wa cd cf hn i hi) gL_kept_X2_owes rfl hdX2_owes ⟨Nat.le_of_ble_eq_true rfl, Nat.le_of_ble_eq_true rfl⟩ ([] : va_W) ([] : va_W) hH (by simp only [List.nil_append, List.append_nil]) ⟨0, 2, _, _, rfl, rfl, rfl⟩ rfl hl.1 (Nat.le_of_ble_eq_true rfl) dL_kept_284 ⟨(by show 8 + 2 * i + 0 ≤ 32; omega), (by show 48 + 12 * i + 0 ≤ 200; omega)⟩ rfl (fun u H locs hH => ?_)
          rw [List.nil_append, List.append_nil] at hH
          have hH : HH G A s (sW G q n nc t fl fd k wd wf wa cd cf) H locs := hH
          refine lv_iadd hx hb dL_kept_287 ?_
          refine lv_istore (lv' := [(4, .int ((nI (sumN d i)) + (wf i 11))), (8, .int (nI j)), (7, .int (nI (cntQ (wa i 2) (wa i 4) (wa i 5) j))), (6, .int (netP (-(wf i 11)) (wa i 4) (wa i 5) j)), (5, .int (nI i)), (3, .int 1), (2, .int (nI t)), (1, .int (nI n)), (0, .ref (q 0))]) hx hb dL_kept_288 hl (by decide) rfl (fun ls hl => ?_)
          refine lv_iload_n hx hb dL_kept_290 rfl (lv_at hl 5 rfl) ?_
          refine lv_if_eq (tgt := 362) hx hb dL_kept_291 (by decide) (fun c_291 => absurd c_291 (by decide)) (fun c_291 => ?_)
          refine lv_iload hx hb dL_kept_294 (lv_at hl 3 rfl) ?_
          refine lv_aload_n hx hb dL_kept_296 rfl (lv_at hl 8 rfl) ?_
          refine lv_iload hx hb dL_kept_297 (lv_at hl 4 rfl) ?_
          refine callVI (rest := [.int (netP (-(wf i 11)) (wa i 4) (wa i 5) j)]) F (c_X2_net_1 l G q n nc t fl fd k wd wf wa cd cf hn i hi) gL_kept_X2_net rfl hdX2_net ⟨Nat.le_of_ble_eq_true rfl, Nat.le_of_ble_eq_true rfl⟩ ([] : va_W) ([] : va_W) hH (by simp only [List.nil_append, List.append_nil]) ⟨0, 2, _, _, rfl, rfl, rfl⟩ rfl hl.1 (Nat.le_of_ble_eq_true rfl) dL_kept_299 ⟨(by show 8 + 2 * i + 0 + 0 ≤ 32; omega), (by show 48 + 12 * i + 0 + 0 ≤ 200; omega)⟩ rfl (fun u H locs hH => ?_)
          rw [List.nil_append, List.append_nil] at hH
          have hH : HH G A s (sW G q n nc t fl fd k wd wf wa cd cf) H locs := hH
          refine lv_icmp_ne (tgt := 362) hx hb dL_kept_302 (by decide) (fun c_302 => absurd (by rw [netP_eq, hWi.2.2.2.1, show j = t by omega]) c_302) (fun c_302 => ?_)
          refine lv_aload_n hx hb dL_kept_305 rfl (lv_at hl 8 rfl) ?_
          refine lv_iload hx hb dL_kept_306 (lv_at hl 4 rfl) ?_
          refine callVI (rest := []) F (c_X2_cutWeeks_1 l G q n nc t fl fd k wd wf wa cd cf hn i hi) gL_kept_X2_cutWeeks rfl hdX2_cutWeeks ⟨Nat.le_of_ble_eq_true rfl, Nat.le_of_ble_eq_true rfl⟩ ([] : va_W) ([] : va_W) hH (by simp only [List.nil_append, List.append_nil]) ⟨0, 2, _, _, rfl, rfl, rfl⟩ rfl hl.1 (Nat.le_of_ble_eq_true rfl) dL_kept_308 ⟨(by show 8 + 2 * i + 0 + 0 + 0 ≤ 32; omega), (by show 48 + 12 * i + 0 + 0 + 0 ≤ 200; omega)⟩ rfl (fun u H locs hH => ?_)
          rw [List.nil_append, List.append_nil] at hH
          have hH : HH G A s (sW G q n nc t fl fd k wd wf wa cd cf) H locs := hH
          refine lv_iload hx hb dL_kept_311 (lv_at hl 2 rfl) ?_
          refine lv_icmp_lt (tgt := 362) hx hb dL_kept_313 (by decide) (fun c_313 => absurd c_313 (by rw [hWi.2.2.1, show j = t by omega]; exact nI_nlt (cntQ_le (wa i 2) (wa i 4) (wa i 5) t) (Nat.lt_of_le_of_lt (cntC_le _ t) (by omega)))) (fun c_313 => ?_)
          refine lv_aload_n hx hb dL_kept_316 rfl (lv_at hl 8 rfl) ?_
          refine lv_iload hx hb dL_kept_317 (lv_at hl 4 rfl) ?_
          refine callVI (rest := []) F (c_X2_cutWeeks_1 l G q n nc t fl fd k wd wf wa cd cf hn i hi) gL_kept_X2_cutWeeks rfl hdX2_cutWeeks ⟨Nat.le_of_ble_eq_true rfl, Nat.le_of_ble_eq_true rfl⟩ ([] : va_W) ([] : va_W) hH (by simp only [List.nil_append, List.append_nil]) ⟨0, 2, _, _, rfl, rfl, rfl⟩ rfl hl.1 (Nat.le_of_ble_eq_true rfl) dL_kept_319 ⟨(by show 8 + 2 * i + 0 + 0 + 0 + 0 ≤ 32; omega), (by show 48 + 12 * i + 0 + 0 + 0 + 0 ≤ 200; omega)⟩ rfl (fun u H locs hH => ?_)
          rw [List.nil_append, List.append_nil] at hH
          have hH : HH G A s (sW G q n nc t fl fd k wd wf wa cd cf) H locs := hH
          refine lv_iload_n hx hb dL_kept_322 rfl (lv_at hl 6 rfl) ?_
          refine lv_icmp_gt (tgt := 362) hx hb dL_kept_323 (by decide) (fun c_323 => absurd c_323 (by rw [hWi.2.2.1]; exact nI_nlt (cntC_le _ t) (by omega))) (fun c_323 => ?_)
          refine lv_aload_n hx hb dL_kept_326 rfl (lv_at hl 8 rfl) ?_
          refine lv_bipush (v := 8) hx hb dL_kept_327 (by decide) ?_
          refine lv_iload hx hb dL_kept_329 (lv_at hl 4 rfl) ?_
          refine lv_iload_n hx hb dL_kept_331 rfl (lv_at hl 6 rfl) ?_
          refine lv_iconst (v := 0) hx hb dL_kept_332 (by decide) ?_
          refine lv_iconst (v := 0) hx hb dL_kept_333 (by decide) ?_
          refine callLI (rest := []) F (k_paid_2 l hst G q n nc t fl fd k wd wf wa cd cf hn i hi ht (nI t) (Or.inr (nI_le (Nat.le_refl t) (by omega))) 0 0) gL_kept_L_call rfl hdL_call ⟨Nat.le_of_ble_eq_true rfl, Nat.le_of_ble_eq_true rfl⟩ ([] : va_W) ([] : va_W) hH (by simp only [List.nil_append, List.append_nil]) rfl hl.1 (Nat.le_of_ble_eq_true rfl) dL_kept_334 ⟨(by show 8 + 2 * i + 0 + 0 + 0 + 0 + 1 ≤ 32; omega), (by show 48 + 12 * i + 0 + 0 + 0 + 0 + 6 ≤ 200; omega)⟩ rfl (fun u H locs hH => ?_)
          rw [List.nil_append, List.append_nil] at hH
          have hH : HH G A s (sW G q n nc t fl fd k wd wf wa cd cf) H locs := hH
          refine lv_bipush (v := (-62)) hx hb dL_kept_337 (by decide) ?_
          refine lv_icmp_ne (tgt := 362) hx hb dL_kept_339 (by decide) (fun c_339 => absurd rfl c_339) (fun c_339 => ?_)
          refine lv_aload_n hx hb dL_kept_342 rfl (lv_at hl 8 rfl) ?_
          refine lv_bipush (v := 9) hx hb dL_kept_343 (by decide) ?_
          refine lv_iload hx hb dL_kept_345 (lv_at hl 4 rfl) ?_
          refine lv_iconst (v := (-1)) hx hb dL_kept_347 (by decide) ?_
          refine lv_iconst (v := 0) hx hb dL_kept_348 (by decide) ?_
          refine lv_iconst (v := 0) hx hb dL_kept_349 (by decide) ?_
          refine callLI (rest := []) F (k_madeUp_2 l hst G q n nc t fl fd k wd wf wa cd cf hn i hi ht (-1) (Or.inl (by decide)) 0 0) gL_kept_L_call rfl hdL_call ⟨Nat.le_of_ble_eq_true rfl, Nat.le_of_ble_eq_true rfl⟩ ([] : va_W) ([] : va_W) hH (by simp only [List.nil_append, List.append_nil]) rfl hl.1 (Nat.le_of_ble_eq_true rfl) dL_kept_350 ⟨(by show 8 + 2 * i + 0 + 0 + 0 + 0 + 1 + 1 ≤ 32; omega), (by show 48 + 12 * i + 0 + 0 + 0 + 0 + 6 + 6 ≤ 200; omega)⟩ rfl (fun u H locs hH => ?_)
          rw [List.nil_append, List.append_nil] at hH
          have hH : HH G A s (sW G q n nc t fl fd k wd wf wa cd cf) H locs := hH
          refine lv_bipush (v := (-62)) hx hb dL_kept_353 (by decide) ?_
          refine lv_icmp_ne (tgt := 362) hx hb dL_kept_355 (by decide) (fun c_355 => absurd rfl c_355) (fun c_355 => ?_)
          refine lv_iconst (v := 1) hx hb dL_kept_358 (by decide) ?_
          refine lv_goto (tgt := 363) hx hb dL_kept_359 (by decide) ?_
          refine lv_istore_n (lv' := [(3, .int 1), (4, .int ((nI (sumN d i)) + (wf i 11))), (8, .int (nI j)), (7, .int (nI (cntQ (wa i 2) (wa i 4) (wa i 5) j))), (6, .int (netP (-(wf i 11)) (wa i 4) (wa i 5) j)), (5, .int (nI i)), (2, .int (nI t)), (1, .int (nI n)), (0, .ref (q 0))]) hx hb dL_kept_363 rfl hl (by decide) rfl (fun ls hl => ?_)
          refine lv_iinc (v := (nI (i + 1))) (lv' := [(5, .int (nI (i + 1))), (3, .int 1), (4, .int ((nI (sumN d i)) + (wf i 11))), (8, .int (nI j)), (7, .int (nI (cntQ (wa i 2) (wa i 4) (wa i 5) j))), (6, .int (netP (-(wf i 11)) (wa i 4) (wa i 5) j)), (2, .int (nI t)), (1, .int (nI n)), (0, .ref (q 0))]) hx hb dL_kept_364 hl (k := 5) rfl (nI_1 i) (by decide) rfl (fun ls hl => ?_)
          refine lv_goto (tgt := 147) hx hb dL_kept_367 (by decide) ?_
          refine W.widen (k := 8 + 2 * (i + 1)) (n := 48 + 12 * (i + 1)) (by show 8 + 2 * i + 0 + 0 + 0 + 0 + 1 + 1 ≤ 8 + 2 * (i + 1); omega) (by show 48 + 12 * i + 0 + 0 + 0 + 0 + 6 + 6 ≤ 48 + 12 * (i + 1); omega) ?_
          exact ih_lp (i + 1) (by omega) _ _ _ hH (lv_sub hl [0, 2, 1, 6, 7, 8] (by rw [hd1 i hi, nI_add]; rfl))
        | succ n_lq ih_lq =>
          intro j hc_lq H locs ls hH hl
          have hj : j < t := by omega
          obtain ⟨u9, v9, hu9, hv9, eu9, ev9, h09⟩ := hWi.2.2.2.2.2 j hj
          refine lv_iload hx hb dL_kept_172 (lv_at hl 0 rfl) ?_
          refine lv_iload_n hx hb dL_kept_174 rfl (lv_at hl 6 rfl) ?_
          refine lv_icmp_ge (tgt := 279) hx hb dL_kept_175 (by decide) (fun c_175 => absurd c_175 (nI_ge (by omega) (by omega))) (fun c_175 => ?_)
          refine lv_iload_n hx hb dL_kept_178 rfl (lv_at hl 5 rfl) ?_
          refine lv_if_eq (tgt := 279) hx hb dL_kept_179 (by decide) (fun c_179 => absurd c_179 (by decide)) (fun c_179 => ?_)
          refine lv_aload_n hx hb dL_kept_182 rfl (lv_at hl 8 rfl) ?_
          refine lv_iload hx hb dL_kept_183 (lv_at hl 3 rfl) ?_
          refine lv_iload hx hb dL_kept_185 (lv_at hl 0 rfl) ?_
          refine callVI (rest := []) F (c_X2_paid_1 l G q n nc t fl fd k wd wf wa cd cf hn i hi ht j hj) gL_kept_X2_paid rfl hdX2_paid ⟨Nat.le_of_ble_eq_true rfl, Nat.le_of_ble_eq_true rfl⟩ ([] : va_W) ([] : va_W) hH (by simp only [List.nil_append, List.append_nil]) ⟨0, 2, _, _, rfl, rfl, rfl⟩ rfl hl.1 (Nat.le_of_ble_eq_true rfl) dL_kept_187 ⟨(by show 8 + 2 * i + 0 ≤ 32; omega), (by show 48 + 12 * i + 0 ≤ 200; omega)⟩ rfl (fun u H locs hH => ?_)
          rw [List.nil_append, List.append_nil] at hH
          have hH : HH G A s (sW G q n nc t fl fd k wd wf wa cd cf) H locs := hH
          refine lv_istore (lv' := [(9, .int (wa i 4 j)), (8, .int (nI j)), (7, .int (nI (cntQ (wa i 2) (wa i 4) (wa i 5) j))), (6, .int (netP (-(wf i 11)) (wa i 4) (wa i 5) j)), (5, .int (nI i)), (4, .int (nI (sumN d i))), (3, .int 1), (2, .int (nI t)), (1, .int (nI n)), (0, .ref (q 0))]) hx hb dL_kept_190 hl (by decide) rfl (fun ls hl => ?_)
          refine lv_aload_n hx hb dL_kept_192 rfl (lv_at hl 9 rfl) ?_
          refine lv_iload hx hb dL_kept_193 (lv_at hl 4 rfl) ?_
          refine lv_iload hx hb dL_kept_195 (lv_at hl 1 rfl) ?_
          refine callVI (rest := []) F (c_X2_madeUp_1 l G q n nc t fl fd k wd wf wa cd cf hn i hi ht j hj) gL_kept_X2_madeUp rfl hdX2_madeUp ⟨Nat.le_of_ble_eq_true rfl, Nat.le_of_ble_eq_true rfl⟩ ([] : va_W) ([] : va_W) hH (by simp only [List.nil_append, List.append_nil]) ⟨0, 2, _, _, rfl, rfl, rfl⟩ rfl hl.1 (Nat.le_of_ble_eq_true rfl) dL_kept_197 ⟨(by show 8 + 2 * i + 0 + 0 ≤ 32; omega), (by show 48 + 12 * i + 0 + 0 ≤ 200; omega)⟩ rfl (fun u H locs hH => ?_)
          rw [List.nil_append, List.append_nil] at hH
          have hH : HH G A s (sW G q n nc t fl fd k wd wf wa cd cf) H locs := hH
          refine lv_istore (lv' := [(10, .int (wa i 5 j)), (9, .int (wa i 4 j)), (8, .int (nI j)), (7, .int (nI (cntQ (wa i 2) (wa i 4) (wa i 5) j))), (6, .int (netP (-(wf i 11)) (wa i 4) (wa i 5) j)), (5, .int (nI i)), (4, .int (nI (sumN d i))), (3, .int 1), (2, .int (nI t)), (1, .int (nI n)), (0, .ref (q 0))]) hx hb dL_kept_200 hl (by decide) rfl (fun ls hl => ?_)
          refine lv_iload hx hb dL_kept_202 (lv_at hl 4 rfl) ?_
          refine lv_iload hx hb dL_kept_204 (lv_at hl 1 rfl) ?_
          refine lv_iload hx hb dL_kept_206 (lv_at hl 0 rfl) ?_
          refine lv_iadd hx hb dL_kept_208 ?_
          refine lv_iadd hx hb dL_kept_209 ?_
          refine lv_istore (lv' := [(6, .int ((netP (-(wf i 11)) (wa i 4) (wa i 5) j) + ((wa i 4 j) + (wa i 5 j)))), (10, .int (wa i 5 j)), (9, .int (wa i 4 j)), (8, .int (nI j)), (7, .int (nI (cntQ (wa i 2) (wa i 4) (wa i 5) j))), (5, .int (nI i)), (4, .int (nI (sumN d i))), (3, .int 1), (2, .int (nI t)), (1, .int (nI n)), (0, .ref (q 0))]) hx hb dL_kept_210 hl (by decide) rfl (fun ls hl => ?_)
          refine lv_iload hx hb dL_kept_212 (lv_at hl 4 rfl) ?_
          refine lv_aload_n hx hb dL_kept_214 rfl (lv_at hl 10 rfl) ?_
          refine lv_iload hx hb dL_kept_215 (lv_at hl 5 rfl) ?_
          refine lv_iload hx hb dL_kept_217 (lv_at hl 3 rfl) ?_
          refine callVI (rest := [.int (nI (cntQ (wa i 2) (wa i 4) (wa i 5) j))]) F (c_X2_cut_1 l G q n nc t fl fd k wd wf wa cd cf hn i hi j (by omega)) gL_kept_X2_cut rfl hdX2_cut ⟨Nat.le_of_ble_eq_true rfl, Nat.le_of_ble_eq_true rfl⟩ ([] : va_W) ([] : va_W) hH (by simp only [List.nil_append, List.append_nil]) ⟨0, 2, _, _, rfl, rfl, rfl⟩ rfl hl.1 (Nat.le_of_ble_eq_true rfl) dL_kept_219 ⟨(by show 8 + 2 * i + 0 + 0 + 0 ≤ 32; omega), (by show 48 + 12 * i + 0 + 0 + 0 ≤ 200; omega)⟩ rfl (fun u H locs hH => ?_)
          rw [List.nil_append, List.append_nil] at hH
          have hH : HH G A s (sW G q n nc t fl fd k wd wf wa cd cf) H locs := hH
          have j238 : ∀ (b9 : Nat) (hb9 : cntQ (wa i 2) (wa i 4) (wa i 5) (j + 1) = cntQ (wa i 2) (wa i 4) (wa i 5) j + b9) (H : Heap) (locs : List Loc) (ls : Array Slot), HH G A s (sW G q n nc t fl fd k wd wf wa cd cf) H locs → lv_has ls 11 [(6, .int ((netP (-(wf i 11)) (wa i 4) (wa i 5) j) + ((wa i 4 j) + (wa i 5 j)))), (10, .int (wa i 5 j)), (9, .int (wa i 4 j)), (8, .int (nI j)), (7, .int (nI (cntQ (wa i 2) (wa i 4) (wa i 5) j))), (5, .int (nI i)), (4, .int (nI (sumN d i))), (3, .int 1), (2, .int (nI t)), (1, .int (nI n)), (0, .ref (q 0))] → W p l e ({ frames := 10, cells := 32, slots := 200, locals := 240 } : Room) s m [.ref (q 0)].toArray below meth c H locs (8 + 2 * i + 0 + 0 + 0) (48 + 12 * i + 0 + 0 + 0) (EnI G A below s [.ref (q 0)].toArray ({ frames := 10, cells := 32, slots := 200, locals := 240 } : Room) (fun u => sW G q n nc t fl fd k wd wf wa cd cf) 1) (F0 m 238 ls [.int (nI b9), .int (nI (cntQ (wa i 2) (wa i 4) (wa i 5) j))]) := by
            intro b9 hb9 H locs ls hH hl
            refine lv_iadd hx hb dL_kept_238 ?_
            refine lv_istore (lv' := [(7, .int ((nI (cntQ (wa i 2) (wa i 4) (wa i 5) j)) + (nI b9))), (6, .int ((netP (-(wf i 11)) (wa i 4) (wa i 5) j) + ((wa i 4 j) + (wa i 5 j)))), (10, .int (wa i 5 j)), (9, .int (wa i 4 j)), (8, .int (nI j)), (5, .int (nI i)), (4, .int (nI (sumN d i))), (3, .int 1), (2, .int (nI t)), (1, .int (nI n)), (0, .ref (q 0))]) hx hb dL_kept_239 hl (by decide) rfl (fun ls hl => ?_)
            refine lv_iload hx hb dL_kept_241 (lv_at hl 3 rfl) ?_
            refine lv_if_lt (tgt := 271) hx hb dL_kept_243 (by decide) (fun c_243 => absurd c_243 (by rw [eu9]; exact nI_pos (by omega))) (fun c_243 => ?_)
            refine lv_iload hx hb dL_kept_246 (lv_at hl 2 rfl) ?_
            refine lv_if_lt (tgt := 271) hx hb dL_kept_248 (by decide) (fun c_248 => absurd c_248 (by rw [ev9]; exact nI_pos (by omega))) (fun c_248 => ?_)
            refine lv_aload_n hx hb dL_kept_251 rfl (lv_at hl 10 rfl) ?_
            refine lv_iload hx hb dL_kept_252 (lv_at hl 5 rfl) ?_
            refine lv_iload hx hb dL_kept_254 (lv_at hl 4 rfl) ?_
            refine callVI (rest := []) F (c_X2_cut_1 l G q n nc t fl fd k wd wf wa cd cf hn i hi j (by omega)) gL_kept_X2_cut rfl hdX2_cut ⟨Nat.le_of_ble_eq_true rfl, Nat.le_of_ble_eq_true rfl⟩ ([] : va_W) ([] : va_W) hH (by simp only [List.nil_append, List.append_nil]) ⟨0, 2, _, _, rfl, rfl, rfl⟩ rfl hl.1 (Nat.le_of_ble_eq_true rfl) dL_kept_256 ⟨(by show 8 + 2 * i + 0 + 0 + 0 + 0 ≤ 32; omega), (by show 48 + 12 * i + 0 + 0 + 0 + 0 ≤ 200; omega)⟩ rfl (fun u H locs hH => ?_)
            rw [List.nil_append, List.append_nil] at hH
            have hH : HH G A s (sW G q n nc t fl fd k wd wf wa cd cf) H locs := hH
            refine lv_if_gt (tgt := 267) hx hb dL_kept_259 (by decide) (fun c_259 => ?_) (fun c_259 => ?_)
            · refine lv_iconst (v := 1) hx hb dL_kept_267 (by decide) ?_
              refine lv_goto (tgt := 272) hx hb dL_kept_268 (by decide) ?_
              refine lv_istore_n (lv' := [(3, .int 1), (7, .int ((nI (cntQ (wa i 2) (wa i 4) (wa i 5) j)) + (nI b9))), (6, .int ((netP (-(wf i 11)) (wa i 4) (wa i 5) j) + ((wa i 4 j) + (wa i 5 j)))), (10, .int (wa i 5 j)), (9, .int (wa i 4 j)), (8, .int (nI j)), (5, .int (nI i)), (4, .int (nI (sumN d i))), (2, .int (nI t)), (1, .int (nI n)), (0, .ref (q 0))]) hx hb dL_kept_272 rfl hl (by decide) rfl (fun ls hl => ?_)
              refine lv_iinc (v := (nI (j + 1))) (lv' := [(8, .int (nI (j + 1))), (3, .int 1), (7, .int ((nI (cntQ (wa i 2) (wa i 4) (wa i 5) j)) + (nI b9))), (6, .int ((netP (-(wf i 11)) (wa i 4) (wa i 5) j) + ((wa i 4 j) + (wa i 5 j)))), (10, .int (wa i 5 j)), (9, .int (wa i 4 j)), (5, .int (nI i)), (4, .int (nI (sumN d i))), (2, .int (nI t)), (1, .int (nI n)), (0, .ref (q 0))]) hx hb dL_kept_273 hl (k := 5) rfl (nI_1 j) (by decide) rfl (fun ls hl => ?_)
              refine lv_goto (tgt := 172) hx hb dL_kept_276 (by decide) ?_
              refine W.widen (k := 8 + 2 * i) (n := 48 + 12 * i) (by show 8 + 2 * i + 0 + 0 + 0 + 0 ≤ 8 + 2 * i; omega) (by show 48 + 12 * i + 0 + 0 + 0 + 0 ≤ 48 + 12 * i; omega) ?_
              exact ih_lq (j + 1) (by omega) _ _ _ hH (lv_sub hl [0, 2, 3, 6, 7, 1, 8, 9, 10] (by rw [nI_add, ← hb9]; rfl))
            · refine lv_iload hx hb dL_kept_262 (lv_at hl 2 rfl) ?_
              refine lv_if_ne (tgt := 271) hx hb dL_kept_264 (by decide) (fun c_264 => absurd (by rw [ev9, h09 (i_ngt c_259)]; rfl) c_264) (fun c_264 => ?_)
              refine lv_iconst (v := 1) hx hb dL_kept_267 (by decide) ?_
              refine lv_goto (tgt := 272) hx hb dL_kept_268 (by decide) ?_
              refine lv_istore_n (lv' := [(3, .int 1), (7, .int ((nI (cntQ (wa i 2) (wa i 4) (wa i 5) j)) + (nI b9))), (6, .int ((netP (-(wf i 11)) (wa i 4) (wa i 5) j) + ((wa i 4 j) + (wa i 5 j)))), (10, .int (wa i 5 j)), (9, .int (wa i 4 j)), (8, .int (nI j)), (5, .int (nI i)), (4, .int (nI (sumN d i))), (2, .int (nI t)), (1, .int (nI n)), (0, .ref (q 0))]) hx hb dL_kept_272 rfl hl (by decide) rfl (fun ls hl => ?_)
              refine lv_iinc (v := (nI (j + 1))) (lv' := [(8, .int (nI (j + 1))), (3, .int 1), (7, .int ((nI (cntQ (wa i 2) (wa i 4) (wa i 5) j)) + (nI b9))), (6, .int ((netP (-(wf i 11)) (wa i 4) (wa i 5) j) + ((wa i 4 j) + (wa i 5 j)))), (10, .int (wa i 5 j)), (9, .int (wa i 4 j)), (5, .int (nI i)), (4, .int (nI (sumN d i))), (2, .int (nI t)), (1, .int (nI n)), (0, .ref (q 0))]) hx hb dL_kept_273 hl (k := 5) rfl (nI_1 j) (by decide) rfl (fun ls hl => ?_)
              refine lv_goto (tgt := 172) hx hb dL_kept_276 (by decide) ?_
              refine W.widen (k := 8 + 2 * i) (n := 48 + 12 * i) (by show 8 + 2 * i + 0 + 0 + 0 + 0 ≤ 8 + 2 * i; omega) (by show 48 + 12 * i + 0 + 0 + 0 + 0 ≤ 48 + 12 * i; omega) ?_
              exact ih_lq (j + 1) (by omega) _ _ _ hH (lv_sub hl [0, 2, 3, 6, 7, 1, 8, 9, 10] (by rw [nI_add, ← hb9]; rfl))
          refine lv_if_le (tgt := 237) hx hb dL_kept_222 (by decide) (fun c_222 => ?_) (fun c_222 => ?_)
          · refine lv_iconst (v := 0) hx hb dL_kept_237 (by decide) ?_
            exact j238 0 (cntQ_a c_222) _ _ _ hH (lv_sub hl [0, 1, 2, 3, 4, 5, 6, 7, 8, 9, 10] rfl)
          · refine lv_iload hx hb dL_kept_225 (lv_at hl 2 rfl) ?_
            refine lv_iload hx hb dL_kept_227 (lv_at hl 1 rfl) ?_
            refine lv_iadd hx hb dL_kept_229 ?_
            refine lv_if_le (tgt := 237) hx hb dL_kept_230 (by decide) (fun c_230 => ?_) (fun c_230 => ?_)
            · refine lv_iconst (v := 0) hx hb dL_kept_237 (by decide) ?_
              exact j238 0 (cntQ_b c_222 c_230) _ _ _ hH (lv_sub hl [0, 1, 2, 3, 4, 5, 6, 7, 8, 9, 10] rfl)
            · refine lv_iconst (v := 1) hx hb dL_kept_233 (by decide) ?_
              refine lv_goto (tgt := 238) hx hb dL_kept_234 (by decide) ?_
              exact j238 1 (cntQ_c c_222 c_230) _ _ _ hH (lv_sub hl [0, 1, 2, 3, 4, 5, 6, 7, 8, 9, 10] rfl)
      refine W.widen (k := 8 + 2 * i) (n := 48 + 12 * i) (by show 8 + 2 * i + 0 ≤ 8 + 2 * i; omega) (by show 48 + 12 * i + 0 ≤ 48 + 12 * i; omega) ?_
      exact lq t 0 (by omega) _ _ _ hH (lv_sub hl [0, 1, 2, 3, 4, 5, 6, 7, 8] rfl)
  refine W.widen (k := 8 + 2 * 0) (n := 48 + 12 * 0) (Nat.le_of_ble_eq_true rfl) (Nat.le_of_ble_eq_true rfl) ?_
  exact lp n 0 (by omega) _ _ _ hH (lv_sub hl [0, 1, 2, 3, 4, 5] rfl)
