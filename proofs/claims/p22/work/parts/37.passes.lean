set_option maxHeartbeats 8000000 in
set_option maxRecDepth 100000 in
theorem c_passes (l : Launch) (hst : l.stackTraces = false) (G : Gx) (q : Nat → Nat) (n nc t : Nat) (fl fd : Int32) (k : Nat → Int32) (wd : Nat → Nat → Nat) (wf : Nat → Nat → Int32) (wa : Nat → Nat → Nat → Int32) (cd : Nat → Nat) (cf : Nat → Nat → Int32) (z0 : Int32) (hI : IN n nc t fl fd k wf wa cf) : MP l yL_passes wsL_passes ({ frames := 10, cells := 4, slots := 24, locals := 240 } : Room) [.ref (q 0), .int z0] G (sW G q n nc t fl fd k wd wf wa cd cf) (PSI G q nc fl) := by
  refine ofMP (cc := cL_passes) (maxL := 12) (ret := (some .boolean)) (by decide) rfl (Nat.le_of_ble_eq_true rfl) (fun p e s m below meth c A ls F hr hnm hH hl => ?_)
  have F : Fx G p s m _ meth c cL_passes 12 wsL_passes RL A := F
  have hx := F.1.1
  have hb := F.1.2.1
  have hl : lv_has ls 12 [(0, .ref (q 0)), (1, .int z0)] := hl
  have hn : n ≤ 8 := hI.1
  have hnc : nc ≤ 10 := hI.2.1
  have ht : t ≤ 201 := hI.2.2.1
  have hW := hI.2.2.2.2.1
  obtain ⟨d, D, hd1, hD, hd2, hd3⟩ := hI.2.2.2.2.2.2
  have hd4 := cntK_le k 201
  have hfl := hI.2.2.2.1
  refine lv_aload_n hx hb dL_passes_0 rfl (lv_at hl 0 rfl) ?_
  refine callVI (rest := []) F (c_X2_week l G q n nc t fl fd k wd wf wa cd cf) gL_passes_X2_week rfl hdX2_week ⟨Nat.le_of_ble_eq_true rfl, Nat.le_of_ble_eq_true rfl⟩ ([] : va_W) ([] : va_W) hH (by simp only [List.nil_append, List.append_nil]) ⟨0, 2, _, _, rfl, rfl, rfl⟩ rfl hl.1 (Nat.le_of_ble_eq_true rfl) dL_passes_1 ⟨(Nat.le_of_ble_eq_true rfl), (Nat.le_of_ble_eq_true rfl)⟩ rfl (fun u H locs hH => ?_)
  rw [List.nil_append, List.append_nil] at hH
  have hH : HH G A s (sW G q n nc t fl fd k wd wf wa cd cf) H locs := hH
  refine lv_istore_n (lv' := [(2, .int (nI t)), (0, .ref (q 0)), (1, .int z0)]) hx hb dL_passes_4 rfl hl (by decide) rfl (fun ls hl => ?_)
  refine lv_iload_n hx hb dL_passes_5 rfl (lv_at hl 0 rfl) ?_
  refine lv_bipush (v := 55) hx hb dL_passes_6 (by decide) ?_
  refine lv_icmp_le (tgt := 33) hx hb dL_passes_8 (by decide) (fun c_8 => ?_) (fun c_8 => ?_)
  · have ht55 : t ≤ 55 := (nI_leI (b := 55) (by omega) (by decide)).mp c_8
    refine lv_aload_n hx hb dL_passes_33 rfl (lv_at hl 1 rfl) ?_
    refine callVI (rest := []) F (c_X2_workers l G q n nc t fl fd k wd wf wa cd cf) gL_passes_X2_workers rfl hdX2_workers ⟨Nat.le_of_ble_eq_true rfl, Nat.le_of_ble_eq_true rfl⟩ ([] : va_W) ([] : va_W) hH (by simp only [List.nil_append, List.append_nil]) ⟨0, 2, _, _, rfl, rfl, rfl⟩ rfl hl.1 (Nat.le_of_ble_eq_true rfl) dL_passes_34 ⟨(Nat.le_of_ble_eq_true rfl), (Nat.le_of_ble_eq_true rfl)⟩ rfl (fun u H locs hH => ?_)
    rw [List.nil_append, List.append_nil] at hH
    have hH : HH G A s (sW G q n nc t fl fd k wd wf wa cd cf) H locs := hH
    refine lv_istore_n (lv' := [(3, .int (nI n)), (2, .int (nI t)), (0, .ref (q 0)), (1, .int z0)]) hx hb dL_passes_37 rfl hl (by decide) rfl (fun ls hl => ?_)
    refine lv_iconst (v := 0) hx hb dL_passes_38 (by decide) ?_
    refine lv_istore (lv' := [(4, .int 0), (3, .int (nI n)), (2, .int (nI t)), (0, .ref (q 0)), (1, .int z0)]) hx hb dL_passes_39 hl (by decide) rfl (fun ls hl => ?_)
    refine lv_iconst (v := 0) hx hb dL_passes_41 (by decide) ?_
    refine lv_istore (lv' := [(5, .int 0), (4, .int 0), (3, .int (nI n)), (2, .int (nI t)), (0, .ref (q 0)), (1, .int z0)]) hx hb dL_passes_42 hl (by decide) rfl (fun ls hl => ?_)
    refine lv_iconst (v := 0) hx hb dL_passes_44 (by decide) ?_
    refine lv_istore (lv' := [(6, .int 0), (5, .int 0), (4, .int 0), (3, .int (nI n)), (2, .int (nI t)), (0, .ref (q 0)), (1, .int z0)]) hx hb dL_passes_45 hl (by decide) rfl (fun ls hl => ?_)
    refine lv_iconst (v := 0) hx hb dL_passes_47 (by decide) ?_
    refine lv_istore (lv' := [(7, .int 0), (6, .int 0), (5, .int 0), (4, .int 0), (3, .int (nI n)), (2, .int (nI t)), (0, .ref (q 0)), (1, .int z0)]) hx hb dL_passes_48 hl (by decide) rfl (fun ls hl => ?_)
    have la : ∀ (n_la : Nat) (i : Nat) (hc_la : i + n_la = n) (H : Heap) (locs : List Loc) (ls : Array Slot), HH G A s (sW G q n nc t fl fd k wd wf wa cd cf) H locs → lv_has ls 12 [(7, .int (nI i)), (6, .int (nI (dueN wa t i))), (5, .int (sumI (fun x => wf x 9) i)), (4, .int (sumI (fun x => wf x 10 - wf x 11) i)), (3, .int (nI n)), (2, .int (nI t)), (0, .ref (q 0))] → W p l e ({ frames := 10, cells := 4, slots := 24, locals := 240 } : Room) s m [.ref (q 0), .int z0].toArray below meth c H locs (0 + 0 + 0) (0 + 0 + 0) (EnP G A below s [.ref (q 0), .int z0].toArray ({ frames := 10, cells := 4, slots := 24, locals := 240 } : Room) (PSI G q nc fl)) (F0 m 50 ls []) := by
      intro n_la
      induction n_la with
      | zero =>
        intro i hc_la H locs ls hH hl
        refine lv_iload hx hb dL_passes_50 (lv_at hl 0 rfl) ?_
        refine lv_iload_n hx hb dL_passes_52 rfl (lv_at hl 4 rfl) ?_
        refine lv_icmp_ge (tgt := 104) hx hb dL_passes_53 (by decide) (fun c_53 => ?_) (fun c_53 => absurd (nI_le (by omega) (by omega)) c_53)
        rw [show i = n by omega] at hl
        refine lv_aload_n hx hb dL_passes_104 rfl (lv_at hl 6 rfl) ?_
        refine lv_iconst (v := 1) hx hb dL_passes_105 (by decide) ?_
        refine callVI (rest := []) F (c_X2_pass_1 l G q n nc t fl fd k wd wf wa cd cf hn 1 (by decide) (by decide) (by omega)) gL_passes_X2_pass rfl hdX2_pass ⟨Nat.le_of_ble_eq_true rfl, Nat.le_of_ble_eq_true rfl⟩ ([] : va_W) ([] : va_W) hH (by simp only [List.nil_append, List.append_nil]) ⟨0, 2, _, _, rfl, rfl, rfl⟩ rfl hl.1 (Nat.le_of_ble_eq_true rfl) dL_passes_106 ⟨(Nat.le_of_ble_eq_true rfl), (Nat.le_of_ble_eq_true rfl)⟩ rfl (fun u H locs hH => ?_)
        rw [List.nil_append, List.append_nil] at hH
        have hH : HH G A s (sW G q n nc (t + 1) fl fd k wd (passWS fl t n wf wa 1).1 (passWS fl t n wf wa 1).2 cd cf) H locs := hH
        have hI2 := IN_pass hI (show t < 201 by omega)
        have hp := (payWS_at fl t wf wa n).1
        have hT9 : passWT fl t n wf wa 1 = sumI (fun x => pR (wf x) (wa x) t fl) n := (Int32.zero_add _).trans (payWT_eq fl t wf wa n)
        obtain ⟨wf2, hwf2⟩ : ∃ x9, x9 = (payWS fl t wf wa n).1 := ⟨_, rfl⟩
        obtain ⟨wa2, hwa2⟩ : ∃ x9, x9 = (payWS fl t wf wa n).2 := ⟨_, rfl⟩
        have hH : HH G _ s (sW G q n nc (t + 1) fl fd k wd (payWS fl t wf wa n).1 (payWS fl t wf wa n).2 cd cf) H locs := hH
        rw [← hwf2, ← hwa2] at hH hI2 hp
        clear hwf2 hwa2
        have hT : passWT fl t n wf wa 1 = sumI (fun x => wa2 x 5 t) n := by
          rw [hT9]
          exact sumI_congr (fun x hx => by rw [(hp x hx).2]; exact pk_us.symm)
        have hN : sumI (fun x => wf2 x 10 - wf2 x 11) n = sumI (fun x => wf x 10 - wf x 11) n + sumI (fun x => wa2 x 4 t) n + sumI (fun x => wa2 x 5 t) n := sumI_3 (fun x hx => by rw [(hp x hx).1, (hp x hx).2]; show (wf x 10 + (firmP (wf x 0) (wa x 2 t) + pR (wf x) (wa x) t fl)) - wf x 11 = wf x 10 - wf x 11 + upd (wa x 4) t (firmP (wf x 0) (wa x 2 t)) t + upd (wa x 5) t (pR (wf x) (wa x) t fl) t; rw [pk_us, pk_us]; exact pass_net)
        have hC9 : subI (sumI (fun x => wf x 9) n) (fun x => wf2 x 9) n + nI (dueN wa t n) = 0 := by
          have h9 := sub_due (wa := wa) (t := t) (g := (fun x => wf x 9)) (g2 := (fun x => wf2 x 9)) (x := 0) (m := n) (fun x hx => by rw [(hp x hx).1]; show (if wa x 2 t ≤ 0 then wf x 9 else wf x 9 + 1) = wf x 9 + (if wa x 2 t ≤ 0 then 0 else 1); split <;> simp)
          rw [Int32.zero_add] at h9
          exact h9
        have hT0 : ¬ 0 < nI (dueN wa t n) → passWT fl t n wf wa 1 = 0 := by
          intro h9
          have h8 : dueN wa t n = 0 := by
            rcases Nat.eq_zero_or_pos (dueN wa t n) with h7 | h7
            · exact h7
            · exact absurd (nI_lt (a := 0) h7 (Nat.lt_of_le_of_lt (dueN_le wa t n) (by omega))) h9
          rw [hT9]
          refine sumI_0 (fun x hx => ?_)
          obtain ⟨-, v, -, e9, h6⟩ := pay_nat (hW x hx) (show t < 201 by omega) hfl
          rw [e9, h6 (dueN_0 h8 x hx)]; rfl
        refine lv_istore (lv' := [(7, .int (passWT fl t n wf wa 1)), (6, .int (nI (dueN wa t n))), (5, .int (sumI (fun x => wf x 9) n)), (4, .int (sumI (fun x => wf x 10 - wf x 11) n)), (3, .int (nI n)), (2, .int (nI t)), (0, .ref (q 0))]) hx hb dL_passes_109 hl (by decide) rfl (fun ls hl => ?_)
        refine lv_iconst (v := 0) hx hb dL_passes_111 (by decide) ?_
        refine lv_istore (lv' := [(8, .int 0), (7, .int (passWT fl t n wf wa 1)), (6, .int (nI (dueN wa t n))), (5, .int (sumI (fun x => wf x 9) n)), (4, .int (sumI (fun x => wf x 10 - wf x 11) n)), (3, .int (nI n)), (2, .int (nI t)), (0, .ref (q 0))]) hx hb dL_passes_112 hl (by decide) rfl (fun ls hl => ?_)
        refine lv_iconst (v := 0) hx hb dL_passes_114 (by decide) ?_
        refine lv_istore (lv' := [(9, .int 0), (8, .int 0), (7, .int (passWT fl t n wf wa 1)), (6, .int (nI (dueN wa t n))), (5, .int (sumI (fun x => wf x 9) n)), (4, .int (sumI (fun x => wf x 10 - wf x 11) n)), (3, .int (nI n)), (2, .int (nI t)), (0, .ref (q 0))]) hx hb dL_passes_115 hl (by decide) rfl (fun ls hl => ?_)
        refine lv_iconst (v := 0) hx hb dL_passes_117 (by decide) ?_
        refine lv_istore (lv' := [(10, .int 0), (9, .int 0), (8, .int 0), (7, .int (passWT fl t n wf wa 1)), (6, .int (nI (dueN wa t n))), (5, .int (sumI (fun x => wf x 9) n)), (4, .int (sumI (fun x => wf x 10 - wf x 11) n)), (3, .int (nI n)), (2, .int (nI t)), (0, .ref (q 0))]) hx hb dL_passes_118 hl (by decide) rfl (fun ls hl => ?_)
        refine lv_iconst (v := 0) hx hb dL_passes_120 (by decide) ?_
        refine lv_istore (lv' := [(11, .int 0), (10, .int 0), (9, .int 0), (8, .int 0), (7, .int (passWT fl t n wf wa 1)), (6, .int (nI (dueN wa t n))), (5, .int (sumI (fun x => wf x 9) n)), (4, .int (sumI (fun x => wf x 10 - wf x 11) n)), (3, .int (nI n)), (2, .int (nI t)), (0, .ref (q 0))]) hx hb dL_passes_121 hl (by decide) rfl (fun ls hl => ?_)
        have lb : ∀ (n_lb : Nat) (i : Nat) (hc_lb : i + n_lb = n) (H : Heap) (locs : List Loc) (ls : Array Slot), HH G A s (sW G q n nc (t + 1) fl fd k wd wf2 wa2 cd cf) H locs → lv_has ls 12 [(11, .int (nI i)), (10, .int (sumI (fun x => wa2 x 5 t) i)), (9, .int (sumI (fun x => wa2 x 4 t) i)), (8, .int (sumI (fun x => wf2 x 10 - wf2 x 11) i)), (7, .int (passWT fl t n wf wa 1)), (6, .int (nI (dueN wa t n))), (5, .int (subI (sumI (fun x => wf x 9) n) (fun x => wf2 x 9) i)), (4, .int (sumI (fun x => wf x 10 - wf x 11) n)), (3, .int (nI n)), (2, .int (nI t)), (0, .ref (q 0))] → W p l e ({ frames := 10, cells := 4, slots := 24, locals := 240 } : Room) s m [.ref (q 0), .int z0].toArray below meth c H locs (0 + 0 + 0 + 0) (0 + 0 + 0 + 0) (EnP G A below s [.ref (q 0), .int z0].toArray ({ frames := 10, cells := 4, slots := 24, locals := 240 } : Room) (PSI G q nc fl)) (F0 m 123 ls []) := by
          intro n_lb
          induction n_lb with
          | zero =>
            intro i hc_lb H locs ls hH hl
            refine lv_iload hx hb dL_passes_123 (lv_at hl 0 rfl) ?_
            refine lv_iload_n hx hb dL_passes_125 rfl (lv_at hl 8 rfl) ?_
            refine lv_icmp_ge (tgt := 181) hx hb dL_passes_126 (by decide) (fun c_126 => ?_) (fun c_126 => absurd (nI_le (by omega) (by omega)) c_126)
            rw [show i = n by omega] at hl
            refine lv_aload_n hx hb dL_passes_181 rfl (lv_at hl 10 rfl) ?_
            refine callVI (rest := []) F (c_X2_week l G q n nc (t + 1) fl fd k wd wf2 wa2 cd cf) gL_passes_X2_week rfl hdX2_week ⟨Nat.le_of_ble_eq_true rfl, Nat.le_of_ble_eq_true rfl⟩ ([] : va_W) ([] : va_W) hH (by simp only [List.nil_append, List.append_nil]) ⟨0, 2, _, _, rfl, rfl, rfl⟩ rfl hl.1 (Nat.le_of_ble_eq_true rfl) dL_passes_182 ⟨(Nat.le_of_ble_eq_true rfl), (Nat.le_of_ble_eq_true rfl)⟩ rfl (fun u H locs hH => ?_)
            rw [List.nil_append, List.append_nil] at hH
            have hH : HH G A s (sW G q n nc (t + 1) fl fd k wd wf2 wa2 cd cf) H locs := hH
            refine lv_iload_n hx hb dL_passes_185 rfl (lv_at hl 9 rfl) ?_
            refine lv_iconst (v := 1) hx hb dL_passes_186 (by decide) ?_
            refine lv_iadd hx hb dL_passes_187 ?_
            refine lv_icmp_ne (tgt := 233) hx hb dL_passes_188 (by decide) (fun c_188 => absurd ((nI_1 t).symm) c_188) (fun c_188 => ?_)
            refine lv_iload hx hb dL_passes_191 (lv_at hl 4 rfl) ?_
            refine lv_iload hx hb dL_passes_193 (lv_at hl 1 rfl) ?_
            refine lv_icmp_ne (tgt := 233) hx hb dL_passes_195 (by decide) (fun c_195 => absurd hT c_195) (fun c_195 => ?_)
            refine lv_iload hx hb dL_passes_198 (lv_at hl 3 rfl) ?_
            refine lv_iload hx hb dL_passes_200 (lv_at hl 7 rfl) ?_
            refine lv_iload hx hb dL_passes_202 (lv_at hl 2 rfl) ?_
            refine lv_iadd hx hb dL_passes_204 ?_
            refine lv_iload hx hb dL_passes_205 (lv_at hl 1 rfl) ?_
            refine lv_iadd hx hb dL_passes_207 ?_
            refine lv_icmp_ne (tgt := 233) hx hb dL_passes_208 (by decide) (fun c_208 => absurd hN c_208) (fun c_208 => ?_)
            refine lv_iload hx hb dL_passes_211 (lv_at hl 6 rfl) ?_
            refine lv_iload hx hb dL_passes_213 (lv_at hl 5 rfl) ?_
            refine lv_iadd hx hb dL_passes_215 ?_
            refine lv_if_ne (tgt := 233) hx hb dL_passes_216 (by decide) (fun c_216 => absurd hC9 c_216) (fun c_216 => ?_)
            refine lv_iload hx hb dL_passes_219 (lv_at hl 5 rfl) ?_
            refine lv_if_gt (tgt := 229) hx hb dL_passes_221 (by decide) (fun c_221 => ?_) (fun c_221 => ?_)
            · refine lv_iconst (v := 1) hx hb dL_passes_229 (by decide) ?_
              refine lv_goto (tgt := 234) hx hb dL_passes_230 (by decide) ?_
              exact retP F hr rfl hH (PSI_mk hI2) (Nat.le_of_ble_eq_true rfl) (Nat.le_of_ble_eq_true rfl) dL_passes_234
            · refine lv_iload hx hb dL_passes_224 (lv_at hl 4 rfl) ?_
              refine lv_if_ne (tgt := 233) hx hb dL_passes_226 (by decide) (fun c_226 => absurd (hT0 c_221) c_226) (fun c_226 => ?_)
              refine lv_iconst (v := 1) hx hb dL_passes_229 (by decide) ?_
              refine lv_goto (tgt := 234) hx hb dL_passes_230 (by decide) ?_
              exact retP F hr rfl hH (PSI_mk hI2) (Nat.le_of_ble_eq_true rfl) (Nat.le_of_ble_eq_true rfl) dL_passes_234
          | succ n_lb ih_lb =>
            intro i hc_lb H locs ls hH hl
            have hi : i < n := by omega
            refine lv_iload hx hb dL_passes_123 (lv_at hl 0 rfl) ?_
            refine lv_iload_n hx hb dL_passes_125 rfl (lv_at hl 8 rfl) ?_
            refine lv_icmp_ge (tgt := 181) hx hb dL_passes_126 (by decide) (fun c_126 => absurd c_126 (nI_ge (by omega) (by omega))) (fun c_126 => ?_)
            refine lv_iload hx hb dL_passes_129 (lv_at hl 3 rfl) ?_
            refine lv_aload_n hx hb dL_passes_131 rfl (lv_at hl 10 rfl) ?_
            refine lv_iload hx hb dL_passes_132 (lv_at hl 0 rfl) ?_
            refine callVI (rest := [.int (sumI (fun x => wf2 x 10 - wf2 x 11) i)]) F (c_X2_net_1 l G q n nc (t + 1) fl fd k wd wf2 wa2 cd cf hn i hi) gL_passes_X2_net rfl hdX2_net ⟨Nat.le_of_ble_eq_true rfl, Nat.le_of_ble_eq_true rfl⟩ ([] : va_W) ([] : va_W) hH (by simp only [List.nil_append, List.append_nil]) ⟨0, 2, _, _, rfl, rfl, rfl⟩ rfl hl.1 (Nat.le_of_ble_eq_true rfl) dL_passes_134 ⟨(Nat.le_of_ble_eq_true rfl), (Nat.le_of_ble_eq_true rfl)⟩ rfl (fun u H locs hH => ?_)
            rw [List.nil_append, List.append_nil] at hH
            have hH : HH G A s (sW G q n nc (t + 1) fl fd k wd wf2 wa2 cd cf) H locs := hH
            refine lv_iadd hx hb dL_passes_137 ?_
            refine lv_istore (lv' := [(8, .int ((sumI (fun x => wf2 x 10 - wf2 x 11) i) + (wf2 i 10 - wf2 i 11))), (11, .int (nI i)), (10, .int (sumI (fun x => wa2 x 5 t) i)), (9, .int (sumI (fun x => wa2 x 4 t) i)), (7, .int (passWT fl t n wf wa 1)), (6, .int (nI (dueN wa t n))), (5, .int (subI (sumI (fun x => wf x 9) n) (fun x => wf2 x 9) i)), (4, .int (sumI (fun x => wf x 10 - wf x 11) n)), (3, .int (nI n)), (2, .int (nI t)), (0, .ref (q 0))]) hx hb dL_passes_138 hl (by decide) rfl (fun ls hl => ?_)
            refine lv_iload hx hb dL_passes_140 (lv_at hl 6 rfl) ?_
            refine lv_aload_n hx hb dL_passes_142 rfl (lv_at hl 10 rfl) ?_
            refine lv_iload hx hb dL_passes_143 (lv_at hl 1 rfl) ?_
            refine callVI (rest := [.int (subI (sumI (fun x => wf x 9) n) (fun x => wf2 x 9) i)]) F (c_X2_cutWeeks_1 l G q n nc (t + 1) fl fd k wd wf2 wa2 cd cf hn i hi) gL_passes_X2_cutWeeks rfl hdX2_cutWeeks ⟨Nat.le_of_ble_eq_true rfl, Nat.le_of_ble_eq_true rfl⟩ ([] : va_W) ([] : va_W) hH (by simp only [List.nil_append, List.append_nil]) ⟨0, 2, _, _, rfl, rfl, rfl⟩ rfl hl.1 (Nat.le_of_ble_eq_true rfl) dL_passes_145 ⟨(Nat.le_of_ble_eq_true rfl), (Nat.le_of_ble_eq_true rfl)⟩ rfl (fun u H locs hH => ?_)
            rw [List.nil_append, List.append_nil] at hH
            have hH : HH G A s (sW G q n nc (t + 1) fl fd k wd wf2 wa2 cd cf) H locs := hH
            refine lv_isub hx hb dL_passes_148 ?_
            refine lv_istore (lv' := [(5, .int ((subI (sumI (fun x => wf x 9) n) (fun x => wf2 x 9) i) - (wf2 i 9))), (8, .int ((sumI (fun x => wf2 x 10 - wf2 x 11) i) + (wf2 i 10 - wf2 i 11))), (11, .int (nI i)), (10, .int (sumI (fun x => wa2 x 5 t) i)), (9, .int (sumI (fun x => wa2 x 4 t) i)), (7, .int (passWT fl t n wf wa 1)), (6, .int (nI (dueN wa t n))), (4, .int (sumI (fun x => wf x 10 - wf x 11) n)), (3, .int (nI n)), (2, .int (nI t)), (0, .ref (q 0))]) hx hb dL_passes_149 hl (by decide) rfl (fun ls hl => ?_)
            refine lv_iload hx hb dL_passes_151 (lv_at hl 4 rfl) ?_
            refine lv_aload_n hx hb dL_passes_153 rfl (lv_at hl 10 rfl) ?_
            refine lv_iload hx hb dL_passes_154 (lv_at hl 2 rfl) ?_
            refine lv_iload_n hx hb dL_passes_156 rfl (lv_at hl 9 rfl) ?_
            refine callVI (rest := [.int (sumI (fun x => wa2 x 4 t) i)]) F (c_X2_paid_1 l G q n nc (t + 1) fl fd k wd wf2 wa2 cd cf hn i hi (by omega) t (by omega)) gL_passes_X2_paid rfl hdX2_paid ⟨Nat.le_of_ble_eq_true rfl, Nat.le_of_ble_eq_true rfl⟩ ([] : va_W) ([] : va_W) hH (by simp only [List.nil_append, List.append_nil]) ⟨0, 2, _, _, rfl, rfl, rfl⟩ rfl hl.1 (Nat.le_of_ble_eq_true rfl) dL_passes_157 ⟨(Nat.le_of_ble_eq_true rfl), (Nat.le_of_ble_eq_true rfl)⟩ rfl (fun u H locs hH => ?_)
            rw [List.nil_append, List.append_nil] at hH
            have hH : HH G A s (sW G q n nc (t + 1) fl fd k wd wf2 wa2 cd cf) H locs := hH
            refine lv_iadd hx hb dL_passes_160 ?_
            refine lv_istore (lv' := [(9, .int ((sumI (fun x => wa2 x 4 t) i) + (wa2 i 4 t))), (5, .int ((subI (sumI (fun x => wf x 9) n) (fun x => wf2 x 9) i) - (wf2 i 9))), (8, .int ((sumI (fun x => wf2 x 10 - wf2 x 11) i) + (wf2 i 10 - wf2 i 11))), (11, .int (nI i)), (10, .int (sumI (fun x => wa2 x 5 t) i)), (7, .int (passWT fl t n wf wa 1)), (6, .int (nI (dueN wa t n))), (4, .int (sumI (fun x => wf x 10 - wf x 11) n)), (3, .int (nI n)), (2, .int (nI t)), (0, .ref (q 0))]) hx hb dL_passes_161 hl (by decide) rfl (fun ls hl => ?_)
            refine lv_iload hx hb dL_passes_163 (lv_at hl 4 rfl) ?_
            refine lv_aload_n hx hb dL_passes_165 rfl (lv_at hl 10 rfl) ?_
            refine lv_iload hx hb dL_passes_166 (lv_at hl 3 rfl) ?_
            refine lv_iload_n hx hb dL_passes_168 rfl (lv_at hl 9 rfl) ?_
            refine callVI (rest := [.int (sumI (fun x => wa2 x 5 t) i)]) F (c_X2_madeUp_1 l G q n nc (t + 1) fl fd k wd wf2 wa2 cd cf hn i hi (by omega) t (by omega)) gL_passes_X2_madeUp rfl hdX2_madeUp ⟨Nat.le_of_ble_eq_true rfl, Nat.le_of_ble_eq_true rfl⟩ ([] : va_W) ([] : va_W) hH (by simp only [List.nil_append, List.append_nil]) ⟨0, 2, _, _, rfl, rfl, rfl⟩ rfl hl.1 (Nat.le_of_ble_eq_true rfl) dL_passes_169 ⟨(Nat.le_of_ble_eq_true rfl), (Nat.le_of_ble_eq_true rfl)⟩ rfl (fun u H locs hH => ?_)
            rw [List.nil_append, List.append_nil] at hH
            have hH : HH G A s (sW G q n nc (t + 1) fl fd k wd wf2 wa2 cd cf) H locs := hH
            refine lv_iadd hx hb dL_passes_172 ?_
            refine lv_istore (lv' := [(10, .int ((sumI (fun x => wa2 x 5 t) i) + (wa2 i 5 t))), (9, .int ((sumI (fun x => wa2 x 4 t) i) + (wa2 i 4 t))), (5, .int ((subI (sumI (fun x => wf x 9) n) (fun x => wf2 x 9) i) - (wf2 i 9))), (8, .int ((sumI (fun x => wf2 x 10 - wf2 x 11) i) + (wf2 i 10 - wf2 i 11))), (11, .int (nI i)), (7, .int (passWT fl t n wf wa 1)), (6, .int (nI (dueN wa t n))), (4, .int (sumI (fun x => wf x 10 - wf x 11) n)), (3, .int (nI n)), (2, .int (nI t)), (0, .ref (q 0))]) hx hb dL_passes_173 hl (by decide) rfl (fun ls hl => ?_)
            refine lv_iinc (v := (nI (i + 1))) (lv' := [(11, .int (nI (i + 1))), (10, .int ((sumI (fun x => wa2 x 5 t) i) + (wa2 i 5 t))), (9, .int ((sumI (fun x => wa2 x 4 t) i) + (wa2 i 4 t))), (5, .int ((subI (sumI (fun x => wf x 9) n) (fun x => wf2 x 9) i) - (wf2 i 9))), (8, .int ((sumI (fun x => wf2 x 10 - wf2 x 11) i) + (wf2 i 10 - wf2 i 11))), (7, .int (passWT fl t n wf wa 1)), (6, .int (nI (dueN wa t n))), (4, .int (sumI (fun x => wf x 10 - wf x 11) n)), (3, .int (nI n)), (2, .int (nI t)), (0, .ref (q 0))]) hx hb dL_passes_175 hl (k := 4) rfl (nI_1 i) (by decide) rfl (fun ls hl => ?_)
            refine lv_goto (tgt := 123) hx hb dL_passes_178 (by decide) ?_
            refine W.widen (k := 0 + 0 + 0 + 0) (n := 0 + 0 + 0 + 0) (Nat.le_of_ble_eq_true rfl) (Nat.le_of_ble_eq_true rfl) ?_
            exact ih_lb (i + 1) (by omega) _ _ _ hH (lv_sub hl [0, 1, 2, 4, 5, 6, 3, 7, 8, 9, 10] rfl)
        exact lb n 0 (by omega) _ _ _ hH (lv_sub hl [0, 1, 2, 3, 4, 5, 6, 7, 8, 9, 10] rfl)
      | succ n_la ih_la =>
        intro i hc_la H locs ls hH hl
        have hi : i < n := by omega
        refine lv_iload hx hb dL_passes_50 (lv_at hl 0 rfl) ?_
        refine lv_iload_n hx hb dL_passes_52 rfl (lv_at hl 4 rfl) ?_
        refine lv_icmp_ge (tgt := 104) hx hb dL_passes_53 (by decide) (fun c_53 => absurd c_53 (nI_ge (by omega) (by omega))) (fun c_53 => ?_)
        refine lv_iload hx hb dL_passes_56 (lv_at hl 3 rfl) ?_
        refine lv_aload_n hx hb dL_passes_58 rfl (lv_at hl 6 rfl) ?_
        refine lv_iload hx hb dL_passes_59 (lv_at hl 0 rfl) ?_
        refine callVI (rest := [.int (sumI (fun x => wf x 10 - wf x 11) i)]) F (c_X2_net_1 l G q n nc t fl fd k wd wf wa cd cf hn i hi) gL_passes_X2_net rfl hdX2_net ⟨Nat.le_of_ble_eq_true rfl, Nat.le_of_ble_eq_true rfl⟩ ([] : va_W) ([] : va_W) hH (by simp only [List.nil_append, List.append_nil]) ⟨0, 2, _, _, rfl, rfl, rfl⟩ rfl hl.1 (Nat.le_of_ble_eq_true rfl) dL_passes_61 ⟨(Nat.le_of_ble_eq_true rfl), (Nat.le_of_ble_eq_true rfl)⟩ rfl (fun u H locs hH => ?_)
        rw [List.nil_append, List.append_nil] at hH
        have hH : HH G A s (sW G q n nc t fl fd k wd wf wa cd cf) H locs := hH
        refine lv_iadd hx hb dL_passes_64 ?_
        refine lv_istore (lv' := [(4, .int ((sumI (fun x => wf x 10 - wf x 11) i) + (wf i 10 - wf i 11))), (7, .int (nI i)), (6, .int (nI (dueN wa t i))), (5, .int (sumI (fun x => wf x 9) i)), (3, .int (nI n)), (2, .int (nI t)), (0, .ref (q 0))]) hx hb dL_passes_65 hl (by decide) rfl (fun ls hl => ?_)
        refine lv_iload hx hb dL_passes_67 (lv_at hl 3 rfl) ?_
        refine lv_aload_n hx hb dL_passes_69 rfl (lv_at hl 6 rfl) ?_
        refine lv_iload hx hb dL_passes_70 (lv_at hl 1 rfl) ?_
        refine callVI (rest := [.int (sumI (fun x => wf x 9) i)]) F (c_X2_cutWeeks_1 l G q n nc t fl fd k wd wf wa cd cf hn i hi) gL_passes_X2_cutWeeks rfl hdX2_cutWeeks ⟨Nat.le_of_ble_eq_true rfl, Nat.le_of_ble_eq_true rfl⟩ ([] : va_W) ([] : va_W) hH (by simp only [List.nil_append, List.append_nil]) ⟨0, 2, _, _, rfl, rfl, rfl⟩ rfl hl.1 (Nat.le_of_ble_eq_true rfl) dL_passes_72 ⟨(Nat.le_of_ble_eq_true rfl), (Nat.le_of_ble_eq_true rfl)⟩ rfl (fun u H locs hH => ?_)
        rw [List.nil_append, List.append_nil] at hH
        have hH : HH G A s (sW G q n nc t fl fd k wd wf wa cd cf) H locs := hH
        refine lv_iadd hx hb dL_passes_75 ?_
        refine lv_istore (lv' := [(5, .int ((sumI (fun x => wf x 9) i) + (wf i 9))), (4, .int ((sumI (fun x => wf x 10 - wf x 11) i) + (wf i 10 - wf i 11))), (7, .int (nI i)), (6, .int (nI (dueN wa t i))), (3, .int (nI n)), (2, .int (nI t)), (0, .ref (q 0))]) hx hb dL_passes_76 hl (by decide) rfl (fun ls hl => ?_)
        refine lv_iload hx hb dL_passes_78 (lv_at hl 3 rfl) ?_
        refine lv_aload_n hx hb dL_passes_80 rfl (lv_at hl 6 rfl) ?_
        refine lv_iload hx hb dL_passes_81 (lv_at hl 2 rfl) ?_
        refine lv_iload_n hx hb dL_passes_83 rfl (lv_at hl 5 rfl) ?_
        refine callVI (rest := [.int (nI (dueN wa t i))]) F (c_X2_cut_1 l G q n nc t fl fd k wd wf wa cd cf hn i hi t (by omega)) gL_passes_X2_cut rfl hdX2_cut ⟨Nat.le_of_ble_eq_true rfl, Nat.le_of_ble_eq_true rfl⟩ ([] : va_W) ([] : va_W) hH (by simp only [List.nil_append, List.append_nil]) ⟨0, 2, _, _, rfl, rfl, rfl⟩ rfl hl.1 (Nat.le_of_ble_eq_true rfl) dL_passes_84 ⟨(Nat.le_of_ble_eq_true rfl), (Nat.le_of_ble_eq_true rfl)⟩ rfl (fun u H locs hH => ?_)
        rw [List.nil_append, List.append_nil] at hH
        have hH : HH G A s (sW G q n nc t fl fd k wd wf wa cd cf) H locs := hH
        refine lv_if_le (tgt := 94) hx hb dL_passes_87 (by decide) (fun c_87 => ?_) (fun c_87 => ?_)
        · refine lv_iconst (v := 0) hx hb dL_passes_94 (by decide) ?_
          refine lv_iadd hx hb dL_passes_95 ?_
          refine lv_istore (lv' := [(6, .int ((nI (dueN wa t i)) + 0)), (5, .int ((sumI (fun x => wf x 9) i) + (wf i 9))), (4, .int ((sumI (fun x => wf x 10 - wf x 11) i) + (wf i 10 - wf i 11))), (7, .int (nI i)), (3, .int (nI n)), (2, .int (nI t)), (0, .ref (q 0))]) hx hb dL_passes_96 hl (by decide) rfl (fun ls hl => ?_)
          refine lv_iinc (v := (nI (i + 1))) (lv' := [(7, .int (nI (i + 1))), (6, .int ((nI (dueN wa t i)) + 0)), (5, .int ((sumI (fun x => wf x 9) i) + (wf i 9))), (4, .int ((sumI (fun x => wf x 10 - wf x 11) i) + (wf i 10 - wf i 11))), (3, .int (nI n)), (2, .int (nI t)), (0, .ref (q 0))]) hx hb dL_passes_98 hl (k := 3) rfl (nI_1 i) (by decide) rfl (fun ls hl => ?_)
          refine lv_goto (tgt := 50) hx hb dL_passes_101 (by decide) ?_
          refine W.widen (k := 0 + 0 + 0) (n := 0 + 0 + 0) (Nat.le_of_ble_eq_true rfl) (Nat.le_of_ble_eq_true rfl) ?_
          exact ih_la (i + 1) (by omega) _ _ _ hH (lv_sub hl [0, 1, 2, 3, 4, 5, 6] (by rw [due_0 c_87]; rfl))
        · refine lv_iconst (v := 1) hx hb dL_passes_90 (by decide) ?_
          refine lv_goto (tgt := 95) hx hb dL_passes_91 (by decide) ?_
          refine lv_iadd hx hb dL_passes_95 ?_
          refine lv_istore (lv' := [(6, .int ((nI (dueN wa t i)) + 1)), (5, .int ((sumI (fun x => wf x 9) i) + (wf i 9))), (4, .int ((sumI (fun x => wf x 10 - wf x 11) i) + (wf i 10 - wf i 11))), (7, .int (nI i)), (3, .int (nI n)), (2, .int (nI t)), (0, .ref (q 0))]) hx hb dL_passes_96 hl (by decide) rfl (fun ls hl => ?_)
          refine lv_iinc (v := (nI (i + 1))) (lv' := [(7, .int (nI (i + 1))), (6, .int ((nI (dueN wa t i)) + 1)), (5, .int ((sumI (fun x => wf x 9) i) + (wf i 9))), (4, .int ((sumI (fun x => wf x 10 - wf x 11) i) + (wf i 10 - wf i 11))), (3, .int (nI n)), (2, .int (nI t)), (0, .ref (q 0))]) hx hb dL_passes_98 hl (k := 3) rfl (nI_1 i) (by decide) rfl (fun ls hl => ?_)
          refine lv_goto (tgt := 50) hx hb dL_passes_101 (by decide) ?_
          refine W.widen (k := 0 + 0 + 0) (n := 0 + 0 + 0) (Nat.le_of_ble_eq_true rfl) (Nat.le_of_ble_eq_true rfl) ?_
          exact ih_la (i + 1) (by omega) _ _ _ hH (lv_sub hl [0, 1, 2, 3, 4, 5, 6] (by rw [due_1 c_87]; rfl))
    exact la n 0 (by omega) _ _ _ hH (lv_sub hl [0, 1, 2, 3, 4, 5, 6] rfl)
  · refine lv_aload_n hx hb dL_passes_11 rfl (lv_at hl 1 rfl) ?_
    refine lv_bipush (v := 7) hx hb dL_passes_12 (by decide) ?_
    refine lv_bipush (v := 61) hx hb dL_passes_14 (by decide) ?_
    refine lv_iconst (v := 0) hx hb dL_passes_16 (by decide) ?_
    refine lv_iconst (v := 0) hx hb dL_passes_17 (by decide) ?_
    refine lv_iconst (v := 0) hx hb dL_passes_18 (by decide) ?_
    refine callLI (rest := []) F (k_pass_2 l hst G q n nc t fl fd k wd wf wa cd cf 61 (Or.inr (by decide)) 0 0 0) gL_passes_L_call rfl hdL_call ⟨Nat.le_of_ble_eq_true rfl, Nat.le_of_ble_eq_true rfl⟩ ([] : va_W) ([] : va_W) hH (by simp only [List.nil_append, List.append_nil]) rfl hl.1 (Nat.le_of_ble_eq_true rfl) dL_passes_19 ⟨(Nat.le_of_ble_eq_true rfl), (Nat.le_of_ble_eq_true rfl)⟩ rfl (fun u H locs hH => ?_)
    rw [List.nil_append, List.append_nil] at hH
    have hH : HH G A s (sW G q n nc t fl fd k wd wf wa cd cf) H locs := hH
    refine lv_bipush (v := (-62)) hx hb dL_passes_22 (by decide) ?_
    refine lv_icmp_ne (tgt := 31) hx hb dL_passes_24 (by decide) (fun c_24 => absurd rfl c_24) (fun c_24 => ?_)
    refine lv_iconst (v := 1) hx hb dL_passes_27 (by decide) ?_
    refine lv_goto (tgt := 32) hx hb dL_passes_28 (by decide) ?_
    exact retP F hr rfl hH (PSI_mk hI) (Nat.le_of_ble_eq_true rfl) (Nat.le_of_ble_eq_true rfl) dL_passes_32
