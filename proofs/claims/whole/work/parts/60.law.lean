set_option maxHeartbeats 4000000 in
set_option maxRecDepth 100000 in
theorem law_c0 {p : Program} {l : Launch} {e : Env} {s : State} {m : MethodId} {below : List Frame} {meth : Method} {c : Code} {b L : Nat} {xs : Nat → Int32} {A : Nat → Prop} (hst : l.stackTraces = false) (G : Gx) (F : Fx G p s m #[.ref b] meth c cL_law 7 wsL_law RL A) (hbA : ¬ A b) (hL : L ≤ 2560) (hX : va_X b L xs s s.heap) (hbl : b < s.heap.size) (q mq : Nat → Nat) (o : Nat) (g : Nat → Int64) (w : va_W) (f : Nat → Int32) (a : Nat → Nat → Int32) (hS : SR G q w f a) (i : Nat) (hi5 : i + 5 ≤ L) (cells slots : Nat) (hc9 : cells + 8 ≤ 601024) (hs9 : slots + 1300 ≤ 7293034) (Q : State → Prop)
    (hk : ∀ (g2 : Nat → Int64) (w2 : va_W) (f2 : Nat → Int32) (a2 : Nat → Nat → Int32), SR G q w2 f2 a2 → ∀ (H : Heap) (locs : List Loc) (ls : Array Slot), HH G A s (w2 ++ outC G o g2 ++ mW G mq f2 a2) H locs → lv_has ls 7 [(4, .int (nI i)), (0, .ref b), (1, .ref (q 0)), (2, .ref (mq 0)), (3, .ref o)] → W p l e room_1 s m #[.ref b] below meth c H locs (cells + 8) (slots + 1300) Q (F0 m 1226 ls []))
    (H : Heap) (locs : List Loc) (ls : Array Slot) (hH : HH G A s (w ++ outC G o g ++ mW G mq f a) H locs) (hl : lv_has ls 7 [(4, .int (nI i)), (0, .ref b), (1, .ref (q 0)), (2, .ref (mq 0)), (3, .ref o)]) : W p l e room_1 s m #[.ref b] below meth c H locs cells slots Q (F0 m 128 ls []) := by
  have hx := F.1.1
  have hb := F.1.2.1
  refine lv_aload_n hx hb dL_law_128 rfl (lv_at hl 2 rfl) ?_
  refine lv_aload_n hx hb dL_law_129 rfl (lv_at hl 1 rfl) ?_
  refine lv_iload hx hb dL_law_130 (lv_at hl 0 rfl) ?_
  refine lv_iconst (v := 1) hx hb dL_law_132 (by decide) ?_
  refine lv_iadd hx hb dL_law_133 ?_
  refine rsld F hH hX hbl hbA (by omega) (i + 1) (nI_1 i) (by omega) dL_law_134 ?_
  refine lv_aload_n hx hb dL_law_135 rfl (lv_at hl 1 rfl) ?_
  refine lv_iload hx hb dL_law_136 (lv_at hl 0 rfl) ?_
  refine lv_iconst (v := 2) hx hb dL_law_138 (by decide) ?_
  refine lv_iadd hx hb dL_law_139 ?_
  refine rsld F hH hX hbl hbA (by omega) (i + 2) (nI_add i 2) (by omega) dL_law_140 ?_
  refine lv_if_eq (tgt := 148) hx hb dL_law_141 (by decide) (fun cb => ?_) (fun cb => ?_)
  · refine lv_iconst (v := 0) hx hb dL_law_148 (by decide) ?_
    refine lv_aload_n hx hb dL_law_149 rfl (lv_at hl 4 rfl) ?_
    obtain ⟨c1, s1, fr3, lo3, kk, b9, g2, sw2, f2, a2, hc1, hs1, hf3, hl3, M1, M2, h24, hk0, hSR⟩ := sim_add l hst G q mq o g w f a hS (xs (i + 1)) 0 (Or.inl rfl)
    refine callLI (rest := []) F M1 gL_law_L_add rfl hdL_add.2 ⟨Nat.le_of_ble_eq_true rfl, Nat.le_of_ble_eq_true rfl⟩ [] (mW G mq f a) hH (by simp) rfl hl.1 (Nat.le_of_ble_eq_true rfl) dL_law_150 ⟨by show cells + c1 ≤ 601024; omega, by show slots + s1 ≤ 7293034; omega⟩ rfl (fun u H locs hH => ?_)
    have hH : HH G A s (sw2 u ++ outC G o g2 ++ mW G mq f a) H locs := by rw [List.nil_append] at hH; exact hH
    refine lv_istore (lv' := [(5, .int kk), (4, .int (nI i)), (0, .ref b), (1, .ref (q 0)), (2, .ref (mq 0)), (3, .ref o)]) hx hb dL_law_153 hl (by decide) rfl (fun ls hl => ?_)
    refine lv_aload_n hx hb dL_law_155 rfl (lv_at hl 4 rfl) ?_
    refine lv_aload_n hx hb dL_law_156 rfl (lv_at hl 2 rfl) ?_
    refine lv_iload hx hb dL_law_157 (lv_at hl 1 rfl) ?_
    refine lv_iconst (v := 1) hx hb dL_law_159 (by decide) ?_
    refine lv_iadd hx hb dL_law_160 ?_
    refine rsld F hH hX hbl hbA (by omega) (i + 1) (nI_1 i) (by omega) dL_law_161 ?_
    refine lv_aload_n hx hb dL_law_162 rfl (lv_at hl 2 rfl) ?_
    refine lv_iload hx hb dL_law_163 (lv_at hl 1 rfl) ?_
    refine lv_iconst (v := 2) hx hb dL_law_165 (by decide) ?_
    refine lv_iadd hx hb dL_law_166 ?_
    refine rsld F hH hX hbl hbA (by omega) (i + 2) (nI_add i 2) (by omega) dL_law_167 ?_
    refine lv_if_eq (tgt := 175) hx hb dL_law_168 (by decide) (fun c9 => ?_) (fun c9 => absurd cb c9)
    refine lv_iconst (v := 0) hx hb dL_law_175 (by decide) ?_
    refine callVI (rest := []) F M2 gL_law_X3_add rfl hdX3_add ⟨by show fr3 + 1 ≤ 11; omega, by show 8 + (3 + 11) + lo3 ≤ 388; omega⟩ (sw2 u ++ outC G o g2) [] hH (by simp) ⟨0, 3, _, _, rfl, rfl, rfl⟩ rfl hl.1 (Nat.le_of_ble_eq_true rfl) dL_law_176 ⟨by show cells + c1 + 0 ≤ 601024; omega, by show slots + s1 + 0 ≤ 7293034; omega⟩ rfl (fun u9 H locs hH => ?_)
    have hH : HH G A s (sw2 u ++ outC G o g2 ++ mW G mq f2 a2) H locs := by rw [List.append_nil] at hH; exact hH
    refine lv_istore (lv' := [(6, .int b9), (5, .int kk), (4, .int (nI i)), (0, .ref b), (1, .ref (q 0)), (2, .ref (mq 0)), (3, .ref o)]) hx hb dL_law_179 hl (by decide) rfl (fun ls hl => ?_)
    refine lv_aload_n hx hb dL_law_181 rfl (lv_at hl 5 rfl) ?_
    refine callVI (rest := []) F (c_X3_thrown l G mq f2 a2) gL_law_X3_thrown rfl hdX3_thrown ⟨Nat.le_of_ble_eq_true rfl, Nat.le_of_ble_eq_true rfl⟩ (sw2 u ++ outC G o g2) [] hH (by simp) ⟨0, 3, _, _, rfl, rfl, rfl⟩ rfl hl.1 (Nat.le_of_ble_eq_true rfl) dL_law_182 ⟨by show cells + c1 + 0 + 0 ≤ 601024; omega, by show slots + s1 + 0 + 0 ≤ 7293034; omega⟩ rfl (fun u9 H locs hH => ?_)
    have hH : HH G A s (sw2 u ++ outC G o g2 ++ mW G mq f2 a2) H locs := by rw [List.append_nil] at hH; exact hH
    refine lv_iload hx hb dL_law_185 (lv_at hl 1 rfl) ?_
    refine lv_icmp_eq (tgt := 192) hx hb dL_law_187 (by decide) (fun c9 => ?_) (fun c9 => absurd (h24) c9)
    refine lv_iload hx hb dL_law_192 (lv_at hl 1 rfl) ?_
    refine lv_if_ne (tgt := 209) hx hb dL_law_194 (by decide) (fun ck => ?_) (fun ck => ?_)
    · refine lv_goto (tgt := 1226) hx hb dL_law_209 (by decide) ?_
      refine W.widen (k := cells + 8) (n := slots + 1300) (by show cells + c1 + 0 + 0 ≤ cells + 8; omega) (by show slots + s1 + 0 + 0 ≤ slots + 1300; omega) ?_
      exact hk g2 _ _ _ (hSR u) _ _ _ hH (lv_sub hl [2, 3, 4, 5, 6] rfl)
    · refine lv_aload_n hx hb dL_law_197 rfl (lv_at hl 6 rfl) ?_
      refine lv_iconst (v := 0) hx hb dL_law_198 (by decide) ?_
      refine rlald F hH ((sw2 u).length + 0) (n := 1) (f := g2) (mid_at (a := sw2 u) (w := outC G o g2) (b := mW G mq f2 a2) (k := 0) rfl) 0 rfl (by decide) (by decide) dL_law_199 ?_
      refine lv_iload hx hb dL_law_200 (lv_at hl 0 rfl) ?_
      refine lv_i2l hx hb dL_law_202 rfl ?_
      refine W.lcmp hx hb dL_law_203 ?_
      refine lv_if_eq (tgt := 209) hx hb dL_law_204 (by decide) (fun c9 => ?_) (fun c9 => absurd (by rw [hk0 ck]; exact lg_self _) c9)
      refine lv_goto (tgt := 1226) hx hb dL_law_209 (by decide) ?_
      refine W.widen (k := cells + 8) (n := slots + 1300) (by show cells + c1 + 0 + 0 ≤ cells + 8; omega) (by show slots + s1 + 0 + 0 ≤ slots + 1300; omega) ?_
      exact hk g2 _ _ _ (hSR u) _ _ _ hH (lv_sub hl [2, 3, 4, 5, 6] rfl)
  · refine lv_iconst (v := 1) hx hb dL_law_144 (by decide) ?_
    refine lv_goto (tgt := 149) hx hb dL_law_145 (by decide) ?_
    refine lv_aload_n hx hb dL_law_149 rfl (lv_at hl 4 rfl) ?_
    obtain ⟨c1, s1, fr3, lo3, kk, b9, g2, sw2, f2, a2, hc1, hs1, hf3, hl3, M1, M2, h24, hk0, hSR⟩ := sim_add l hst G q mq o g w f a hS (xs (i + 1)) 1 (Or.inr rfl)
    refine callLI (rest := []) F M1 gL_law_L_add rfl hdL_add.2 ⟨Nat.le_of_ble_eq_true rfl, Nat.le_of_ble_eq_true rfl⟩ [] (mW G mq f a) hH (by simp) rfl hl.1 (Nat.le_of_ble_eq_true rfl) dL_law_150 ⟨by show cells + c1 ≤ 601024; omega, by show slots + s1 ≤ 7293034; omega⟩ rfl (fun u H locs hH => ?_)
    have hH : HH G A s (sw2 u ++ outC G o g2 ++ mW G mq f a) H locs := by rw [List.nil_append] at hH; exact hH
    refine lv_istore (lv' := [(5, .int kk), (4, .int (nI i)), (0, .ref b), (1, .ref (q 0)), (2, .ref (mq 0)), (3, .ref o)]) hx hb dL_law_153 hl (by decide) rfl (fun ls hl => ?_)
    refine lv_aload_n hx hb dL_law_155 rfl (lv_at hl 4 rfl) ?_
    refine lv_aload_n hx hb dL_law_156 rfl (lv_at hl 2 rfl) ?_
    refine lv_iload hx hb dL_law_157 (lv_at hl 1 rfl) ?_
    refine lv_iconst (v := 1) hx hb dL_law_159 (by decide) ?_
    refine lv_iadd hx hb dL_law_160 ?_
    refine rsld F hH hX hbl hbA (by omega) (i + 1) (nI_1 i) (by omega) dL_law_161 ?_
    refine lv_aload_n hx hb dL_law_162 rfl (lv_at hl 2 rfl) ?_
    refine lv_iload hx hb dL_law_163 (lv_at hl 1 rfl) ?_
    refine lv_iconst (v := 2) hx hb dL_law_165 (by decide) ?_
    refine lv_iadd hx hb dL_law_166 ?_
    refine rsld F hH hX hbl hbA (by omega) (i + 2) (nI_add i 2) (by omega) dL_law_167 ?_
    refine lv_if_eq (tgt := 175) hx hb dL_law_168 (by decide) (fun c9 => absurd c9 cb) (fun c9 => ?_)
    refine lv_iconst (v := 1) hx hb dL_law_171 (by decide) ?_
    refine lv_goto (tgt := 176) hx hb dL_law_172 (by decide) ?_
    refine callVI (rest := []) F M2 gL_law_X3_add rfl hdX3_add ⟨by show fr3 + 1 ≤ 11; omega, by show 8 + (3 + 11) + lo3 ≤ 388; omega⟩ (sw2 u ++ outC G o g2) [] hH (by simp) ⟨0, 3, _, _, rfl, rfl, rfl⟩ rfl hl.1 (Nat.le_of_ble_eq_true rfl) dL_law_176 ⟨by show cells + c1 + 0 ≤ 601024; omega, by show slots + s1 + 0 ≤ 7293034; omega⟩ rfl (fun u9 H locs hH => ?_)
    have hH : HH G A s (sw2 u ++ outC G o g2 ++ mW G mq f2 a2) H locs := by rw [List.append_nil] at hH; exact hH
    refine lv_istore (lv' := [(6, .int b9), (5, .int kk), (4, .int (nI i)), (0, .ref b), (1, .ref (q 0)), (2, .ref (mq 0)), (3, .ref o)]) hx hb dL_law_179 hl (by decide) rfl (fun ls hl => ?_)
    refine lv_aload_n hx hb dL_law_181 rfl (lv_at hl 5 rfl) ?_
    refine callVI (rest := []) F (c_X3_thrown l G mq f2 a2) gL_law_X3_thrown rfl hdX3_thrown ⟨Nat.le_of_ble_eq_true rfl, Nat.le_of_ble_eq_true rfl⟩ (sw2 u ++ outC G o g2) [] hH (by simp) ⟨0, 3, _, _, rfl, rfl, rfl⟩ rfl hl.1 (Nat.le_of_ble_eq_true rfl) dL_law_182 ⟨by show cells + c1 + 0 + 0 ≤ 601024; omega, by show slots + s1 + 0 + 0 ≤ 7293034; omega⟩ rfl (fun u9 H locs hH => ?_)
    have hH : HH G A s (sw2 u ++ outC G o g2 ++ mW G mq f2 a2) H locs := by rw [List.append_nil] at hH; exact hH
    refine lv_iload hx hb dL_law_185 (lv_at hl 1 rfl) ?_
    refine lv_icmp_eq (tgt := 192) hx hb dL_law_187 (by decide) (fun c9 => ?_) (fun c9 => absurd (h24) c9)
    refine lv_iload hx hb dL_law_192 (lv_at hl 1 rfl) ?_
    refine lv_if_ne (tgt := 209) hx hb dL_law_194 (by decide) (fun ck => ?_) (fun ck => ?_)
    · refine lv_goto (tgt := 1226) hx hb dL_law_209 (by decide) ?_
      refine W.widen (k := cells + 8) (n := slots + 1300) (by show cells + c1 + 0 + 0 ≤ cells + 8; omega) (by show slots + s1 + 0 + 0 ≤ slots + 1300; omega) ?_
      exact hk g2 _ _ _ (hSR u) _ _ _ hH (lv_sub hl [2, 3, 4, 5, 6] rfl)
    · refine lv_aload_n hx hb dL_law_197 rfl (lv_at hl 6 rfl) ?_
      refine lv_iconst (v := 0) hx hb dL_law_198 (by decide) ?_
      refine rlald F hH ((sw2 u).length + 0) (n := 1) (f := g2) (mid_at (a := sw2 u) (w := outC G o g2) (b := mW G mq f2 a2) (k := 0) rfl) 0 rfl (by decide) (by decide) dL_law_199 ?_
      refine lv_iload hx hb dL_law_200 (lv_at hl 0 rfl) ?_
      refine lv_i2l hx hb dL_law_202 rfl ?_
      refine W.lcmp hx hb dL_law_203 ?_
      refine lv_if_eq (tgt := 209) hx hb dL_law_204 (by decide) (fun c9 => ?_) (fun c9 => absurd (by rw [hk0 ck]; exact lg_self _) c9)
      refine lv_goto (tgt := 1226) hx hb dL_law_209 (by decide) ?_
      refine W.widen (k := cells + 8) (n := slots + 1300) (by show cells + c1 + 0 + 0 ≤ cells + 8; omega) (by show slots + s1 + 0 + 0 ≤ slots + 1300; omega) ?_
      exact hk g2 _ _ _ (hSR u) _ _ _ hH (lv_sub hl [2, 3, 4, 5, 6] rfl)

set_option maxHeartbeats 4000000 in
set_option maxRecDepth 100000 in
theorem law_c1 {p : Program} {l : Launch} {e : Env} {s : State} {m : MethodId} {below : List Frame} {meth : Method} {c : Code} {b L : Nat} {xs : Nat → Int32} {A : Nat → Prop} (hst : l.stackTraces = false) (G : Gx) (F : Fx G p s m #[.ref b] meth c cL_law 7 wsL_law RL A) (hbA : ¬ A b) (hL : L ≤ 2560) (hX : va_X b L xs s s.heap) (hbl : b < s.heap.size) (q mq : Nat → Nat) (o : Nat) (g : Nat → Int64) (w : va_W) (f : Nat → Int32) (a : Nat → Nat → Int32) (hS : SR G q w f a) (i : Nat) (hi5 : i + 5 ≤ L) (cells slots : Nat) (hc9 : cells + 8 ≤ 601024) (hs9 : slots + 1300 ≤ 7293034) (Q : State → Prop)
    (hk : ∀ (g2 : Nat → Int64) (w2 : va_W) (f2 : Nat → Int32) (a2 : Nat → Nat → Int32), SR G q w2 f2 a2 → ∀ (H : Heap) (locs : List Loc) (ls : Array Slot), HH G A s (w2 ++ outC G o g2 ++ mW G mq f2 a2) H locs → lv_has ls 7 [(4, .int (nI i)), (0, .ref b), (1, .ref (q 0)), (2, .ref (mq 0)), (3, .ref o)] → W p l e room_1 s m #[.ref b] below meth c H locs (cells + 8) (slots + 1300) Q (F0 m 1226 ls []))
    (H : Heap) (locs : List Loc) (ls : Array Slot) (hH : HH G A s (w ++ outC G o g ++ mW G mq f a) H locs) (hl : lv_has ls 7 [(4, .int (nI i)), (0, .ref b), (1, .ref (q 0)), (2, .ref (mq 0)), (3, .ref o)]) : W p l e room_1 s m #[.ref b] below meth c H locs cells slots Q (F0 m 212 ls []) := by
  have hx := F.1.1
  have hb := F.1.2.1
  refine lv_aload_n hx hb dL_law_212 rfl (lv_at hl 2 rfl) ?_
  refine lv_aload_n hx hb dL_law_213 rfl (lv_at hl 1 rfl) ?_
  refine lv_iload hx hb dL_law_214 (lv_at hl 0 rfl) ?_
  refine lv_iconst (v := 1) hx hb dL_law_216 (by decide) ?_
  refine lv_iadd hx hb dL_law_217 ?_
  refine rsld F hH hX hbl hbA (by omega) (i + 1) (nI_1 i) (by omega) dL_law_218 ?_
  refine lv_aload_n hx hb dL_law_219 rfl (lv_at hl 1 rfl) ?_
  refine lv_iload hx hb dL_law_220 (lv_at hl 0 rfl) ?_
  refine lv_iconst (v := 2) hx hb dL_law_222 (by decide) ?_
  refine lv_iadd hx hb dL_law_223 ?_
  refine rsld F hH hX hbl hbA (by omega) (i + 2) (nI_add i 2) (by omega) dL_law_224 ?_
  refine lv_aload_n hx hb dL_law_225 rfl (lv_at hl 1 rfl) ?_
  refine lv_iload hx hb dL_law_226 (lv_at hl 0 rfl) ?_
  refine lv_iconst (v := 3) hx hb dL_law_228 (by decide) ?_
  refine lv_iadd hx hb dL_law_229 ?_
  refine rsld F hH hX hbl hbA (by omega) (i + 3) (nI_add i 3) (by omega) dL_law_230 ?_
  refine lv_aload_n hx hb dL_law_231 rfl (lv_at hl 1 rfl) ?_
  refine lv_iload hx hb dL_law_232 (lv_at hl 0 rfl) ?_
  refine lv_iconst (v := 4) hx hb dL_law_234 (by decide) ?_
  refine lv_iadd hx hb dL_law_235 ?_
  refine rsld F hH hX hbl hbA (by omega) (i + 4) (nI_add i 4) (by omega) dL_law_236 ?_
  refine lv_aload_n hx hb dL_law_237 rfl (lv_at hl 4 rfl) ?_
  obtain ⟨c1, s1, fr3, lo3, kk, b9, g2, sw2, f2, a2, hc1, hs1, hf3, hl3, M1, M2, h24, hk0, hSR⟩ := sim_notice l hst G q mq o g w f a hS (xs (i + 1)) (xs (i + 2)) (xs (i + 3)) (xs (i + 4))
  refine callLI (rest := []) F M1 gL_law_L_notice rfl hdL_notice.2 ⟨Nat.le_of_ble_eq_true rfl, Nat.le_of_ble_eq_true rfl⟩ [] (mW G mq f a) hH (by simp) rfl hl.1 (Nat.le_of_ble_eq_true rfl) dL_law_238 ⟨by show cells + c1 ≤ 601024; omega, by show slots + s1 ≤ 7293034; omega⟩ rfl (fun u H locs hH => ?_)
  have hH : HH G A s (sw2 u ++ outC G o g2 ++ mW G mq f a) H locs := by rw [List.nil_append] at hH; exact hH
  refine lv_istore (lv' := [(5, .int kk), (4, .int (nI i)), (0, .ref b), (1, .ref (q 0)), (2, .ref (mq 0)), (3, .ref o)]) hx hb dL_law_241 hl (by decide) rfl (fun ls hl => ?_)
  refine lv_aload_n hx hb dL_law_243 rfl (lv_at hl 4 rfl) ?_
  refine lv_aload_n hx hb dL_law_244 rfl (lv_at hl 2 rfl) ?_
  refine lv_iload hx hb dL_law_245 (lv_at hl 1 rfl) ?_
  refine lv_iconst (v := 1) hx hb dL_law_247 (by decide) ?_
  refine lv_iadd hx hb dL_law_248 ?_
  refine rsld F hH hX hbl hbA (by omega) (i + 1) (nI_1 i) (by omega) dL_law_249 ?_
  refine lv_aload_n hx hb dL_law_250 rfl (lv_at hl 2 rfl) ?_
  refine lv_iload hx hb dL_law_251 (lv_at hl 1 rfl) ?_
  refine lv_iconst (v := 2) hx hb dL_law_253 (by decide) ?_
  refine lv_iadd hx hb dL_law_254 ?_
  refine rsld F hH hX hbl hbA (by omega) (i + 2) (nI_add i 2) (by omega) dL_law_255 ?_
  refine lv_aload_n hx hb dL_law_256 rfl (lv_at hl 2 rfl) ?_
  refine lv_iload hx hb dL_law_257 (lv_at hl 1 rfl) ?_
  refine lv_iconst (v := 3) hx hb dL_law_259 (by decide) ?_
  refine lv_iadd hx hb dL_law_260 ?_
  refine rsld F hH hX hbl hbA (by omega) (i + 3) (nI_add i 3) (by omega) dL_law_261 ?_
  refine lv_aload_n hx hb dL_law_262 rfl (lv_at hl 2 rfl) ?_
  refine lv_iload hx hb dL_law_263 (lv_at hl 1 rfl) ?_
  refine lv_iconst (v := 4) hx hb dL_law_265 (by decide) ?_
  refine lv_iadd hx hb dL_law_266 ?_
  refine rsld F hH hX hbl hbA (by omega) (i + 4) (nI_add i 4) (by omega) dL_law_267 ?_
  refine callVI (rest := []) F M2 gL_law_X3_notice rfl hdX3_notice ⟨by show fr3 + 1 ≤ 11; omega, by show 8 + (6 + 11) + lo3 ≤ 388; omega⟩ (sw2 u ++ outC G o g2) [] hH (by simp) ⟨0, 3, _, _, rfl, rfl, rfl⟩ rfl hl.1 (Nat.le_of_ble_eq_true rfl) dL_law_268 ⟨by show cells + c1 + 0 ≤ 601024; omega, by show slots + s1 + 0 ≤ 7293034; omega⟩ rfl (fun u9 H locs hH => ?_)
  have hH : HH G A s (sw2 u ++ outC G o g2 ++ mW G mq f2 a2) H locs := by rw [List.append_nil] at hH; exact hH
  refine lv_istore (lv' := [(6, .int b9), (5, .int kk), (4, .int (nI i)), (0, .ref b), (1, .ref (q 0)), (2, .ref (mq 0)), (3, .ref o)]) hx hb dL_law_271 hl (by decide) rfl (fun ls hl => ?_)
  refine lv_aload_n hx hb dL_law_273 rfl (lv_at hl 5 rfl) ?_
  refine callVI (rest := []) F (c_X3_thrown l G mq f2 a2) gL_law_X3_thrown rfl hdX3_thrown ⟨Nat.le_of_ble_eq_true rfl, Nat.le_of_ble_eq_true rfl⟩ (sw2 u ++ outC G o g2) [] hH (by simp) ⟨0, 3, _, _, rfl, rfl, rfl⟩ rfl hl.1 (Nat.le_of_ble_eq_true rfl) dL_law_274 ⟨by show cells + c1 + 0 + 0 ≤ 601024; omega, by show slots + s1 + 0 + 0 ≤ 7293034; omega⟩ rfl (fun u9 H locs hH => ?_)
  have hH : HH G A s (sw2 u ++ outC G o g2 ++ mW G mq f2 a2) H locs := by rw [List.append_nil] at hH; exact hH
  refine lv_iload hx hb dL_law_277 (lv_at hl 1 rfl) ?_
  refine lv_icmp_eq (tgt := 284) hx hb dL_law_279 (by decide) (fun c9 => ?_) (fun c9 => absurd (h24) c9)
  refine lv_iload hx hb dL_law_284 (lv_at hl 1 rfl) ?_
  refine lv_if_ne (tgt := 301) hx hb dL_law_286 (by decide) (fun ck => ?_) (fun ck => ?_)
  · refine lv_goto (tgt := 1226) hx hb dL_law_301 (by decide) ?_
    refine W.widen (k := cells + 8) (n := slots + 1300) (by show cells + c1 + 0 + 0 ≤ cells + 8; omega) (by show slots + s1 + 0 + 0 ≤ slots + 1300; omega) ?_
    exact hk g2 _ _ _ (hSR u) _ _ _ hH (lv_sub hl [2, 3, 4, 5, 6] rfl)
  · refine lv_aload_n hx hb dL_law_289 rfl (lv_at hl 6 rfl) ?_
    refine lv_iconst (v := 0) hx hb dL_law_290 (by decide) ?_
    refine rlald F hH ((sw2 u).length + 0) (n := 1) (f := g2) (mid_at (a := sw2 u) (w := outC G o g2) (b := mW G mq f2 a2) (k := 0) rfl) 0 rfl (by decide) (by decide) dL_law_291 ?_
    refine lv_iload hx hb dL_law_292 (lv_at hl 0 rfl) ?_
    refine lv_i2l hx hb dL_law_294 rfl ?_
    refine W.lcmp hx hb dL_law_295 ?_
    refine lv_if_eq (tgt := 301) hx hb dL_law_296 (by decide) (fun c9 => ?_) (fun c9 => absurd (by rw [hk0 ck]; exact lg_self _) c9)
    refine lv_goto (tgt := 1226) hx hb dL_law_301 (by decide) ?_
    refine W.widen (k := cells + 8) (n := slots + 1300) (by show cells + c1 + 0 + 0 ≤ cells + 8; omega) (by show slots + s1 + 0 + 0 ≤ slots + 1300; omega) ?_
    exact hk g2 _ _ _ (hSR u) _ _ _ hH (lv_sub hl [2, 3, 4, 5, 6] rfl)

set_option maxHeartbeats 4000000 in
set_option maxRecDepth 100000 in
theorem law_c2 {p : Program} {l : Launch} {e : Env} {s : State} {m : MethodId} {below : List Frame} {meth : Method} {c : Code} {b L : Nat} {xs : Nat → Int32} {A : Nat → Prop} (hst : l.stackTraces = false) (G : Gx) (F : Fx G p s m #[.ref b] meth c cL_law 7 wsL_law RL A) (hbA : ¬ A b) (hL : L ≤ 2560) (hX : va_X b L xs s s.heap) (hbl : b < s.heap.size) (q mq : Nat → Nat) (o : Nat) (g : Nat → Int64) (w : va_W) (f : Nat → Int32) (a : Nat → Nat → Int32) (hS : SR G q w f a) (i : Nat) (hi5 : i + 5 ≤ L) (cells slots : Nat) (hc9 : cells + 8 ≤ 601024) (hs9 : slots + 1300 ≤ 7293034) (Q : State → Prop)
    (hk : ∀ (g2 : Nat → Int64) (w2 : va_W) (f2 : Nat → Int32) (a2 : Nat → Nat → Int32), SR G q w2 f2 a2 → ∀ (H : Heap) (locs : List Loc) (ls : Array Slot), HH G A s (w2 ++ outC G o g2 ++ mW G mq f2 a2) H locs → lv_has ls 7 [(4, .int (nI i)), (0, .ref b), (1, .ref (q 0)), (2, .ref (mq 0)), (3, .ref o)] → W p l e room_1 s m #[.ref b] below meth c H locs (cells + 8) (slots + 1300) Q (F0 m 1226 ls []))
    (H : Heap) (locs : List Loc) (ls : Array Slot) (hH : HH G A s (w ++ outC G o g ++ mW G mq f a) H locs) (hl : lv_has ls 7 [(4, .int (nI i)), (0, .ref b), (1, .ref (q 0)), (2, .ref (mq 0)), (3, .ref o)]) : W p l e room_1 s m #[.ref b] below meth c H locs cells slots Q (F0 m 304 ls []) := by
  have hx := F.1.1
  have hb := F.1.2.1
  refine lv_aload_n hx hb dL_law_304 rfl (lv_at hl 2 rfl) ?_
  refine lv_aload_n hx hb dL_law_305 rfl (lv_at hl 1 rfl) ?_
  refine lv_iload hx hb dL_law_306 (lv_at hl 0 rfl) ?_
  refine lv_iconst (v := 1) hx hb dL_law_308 (by decide) ?_
  refine lv_iadd hx hb dL_law_309 ?_
  refine rsld F hH hX hbl hbA (by omega) (i + 1) (nI_1 i) (by omega) dL_law_310 ?_
  refine lv_aload_n hx hb dL_law_311 rfl (lv_at hl 1 rfl) ?_
  refine lv_iload hx hb dL_law_312 (lv_at hl 0 rfl) ?_
  refine lv_iconst (v := 2) hx hb dL_law_314 (by decide) ?_
  refine lv_iadd hx hb dL_law_315 ?_
  refine rsld F hH hX hbl hbA (by omega) (i + 2) (nI_add i 2) (by omega) dL_law_316 ?_
  refine lv_aload_n hx hb dL_law_317 rfl (lv_at hl 1 rfl) ?_
  refine lv_iload hx hb dL_law_318 (lv_at hl 0 rfl) ?_
  refine lv_iconst (v := 3) hx hb dL_law_320 (by decide) ?_
  refine lv_iadd hx hb dL_law_321 ?_
  refine rsld F hH hX hbl hbA (by omega) (i + 3) (nI_add i 3) (by omega) dL_law_322 ?_
  refine lv_aload_n hx hb dL_law_323 rfl (lv_at hl 1 rfl) ?_
  refine lv_iload hx hb dL_law_324 (lv_at hl 0 rfl) ?_
  refine lv_iconst (v := 4) hx hb dL_law_326 (by decide) ?_
  refine lv_iadd hx hb dL_law_327 ?_
  refine rsld F hH hX hbl hbA (by omega) (i + 4) (nI_add i 4) (by omega) dL_law_328 ?_
  refine lv_aload_n hx hb dL_law_329 rfl (lv_at hl 4 rfl) ?_
  obtain ⟨c1, s1, fr3, lo3, kk, b9, g2, sw2, f2, a2, hc1, hs1, hf3, hl3, M1, M2, h24, hk0, hSR⟩ := sim_addCourse l hst G q mq o g w f a hS (xs (i + 1)) (xs (i + 2)) (xs (i + 3)) (xs (i + 4))
  refine callLI (rest := []) F M1 gL_law_L_addCourse rfl hdL_addCourse.2 ⟨Nat.le_of_ble_eq_true rfl, Nat.le_of_ble_eq_true rfl⟩ [] (mW G mq f a) hH (by simp) rfl hl.1 (Nat.le_of_ble_eq_true rfl) dL_law_330 ⟨by show cells + c1 ≤ 601024; omega, by show slots + s1 ≤ 7293034; omega⟩ rfl (fun u H locs hH => ?_)
  have hH : HH G A s (sw2 u ++ outC G o g2 ++ mW G mq f a) H locs := by rw [List.nil_append] at hH; exact hH
  refine lv_istore (lv' := [(5, .int kk), (4, .int (nI i)), (0, .ref b), (1, .ref (q 0)), (2, .ref (mq 0)), (3, .ref o)]) hx hb dL_law_333 hl (by decide) rfl (fun ls hl => ?_)
  refine lv_aload_n hx hb dL_law_335 rfl (lv_at hl 4 rfl) ?_
  refine lv_aload_n hx hb dL_law_336 rfl (lv_at hl 2 rfl) ?_
  refine lv_iload hx hb dL_law_337 (lv_at hl 1 rfl) ?_
  refine lv_iconst (v := 1) hx hb dL_law_339 (by decide) ?_
  refine lv_iadd hx hb dL_law_340 ?_
  refine rsld F hH hX hbl hbA (by omega) (i + 1) (nI_1 i) (by omega) dL_law_341 ?_
  refine lv_aload_n hx hb dL_law_342 rfl (lv_at hl 2 rfl) ?_
  refine lv_iload hx hb dL_law_343 (lv_at hl 1 rfl) ?_
  refine lv_iconst (v := 2) hx hb dL_law_345 (by decide) ?_
  refine lv_iadd hx hb dL_law_346 ?_
  refine rsld F hH hX hbl hbA (by omega) (i + 2) (nI_add i 2) (by omega) dL_law_347 ?_
  refine lv_aload_n hx hb dL_law_348 rfl (lv_at hl 2 rfl) ?_
  refine lv_iload hx hb dL_law_349 (lv_at hl 1 rfl) ?_
  refine lv_iconst (v := 3) hx hb dL_law_351 (by decide) ?_
  refine lv_iadd hx hb dL_law_352 ?_
  refine rsld F hH hX hbl hbA (by omega) (i + 3) (nI_add i 3) (by omega) dL_law_353 ?_
  refine lv_aload_n hx hb dL_law_354 rfl (lv_at hl 2 rfl) ?_
  refine lv_iload hx hb dL_law_355 (lv_at hl 1 rfl) ?_
  refine lv_iconst (v := 4) hx hb dL_law_357 (by decide) ?_
  refine lv_iadd hx hb dL_law_358 ?_
  refine rsld F hH hX hbl hbA (by omega) (i + 4) (nI_add i 4) (by omega) dL_law_359 ?_
  refine callVI (rest := []) F M2 gL_law_X3_addCourse rfl hdX3_addCourse ⟨by show fr3 + 1 ≤ 11; omega, by show 8 + (5 + 11) + lo3 ≤ 388; omega⟩ (sw2 u ++ outC G o g2) [] hH (by simp) ⟨0, 3, _, _, rfl, rfl, rfl⟩ rfl hl.1 (Nat.le_of_ble_eq_true rfl) dL_law_360 ⟨by show cells + c1 + 0 ≤ 601024; omega, by show slots + s1 + 0 ≤ 7293034; omega⟩ rfl (fun u9 H locs hH => ?_)
  have hH : HH G A s (sw2 u ++ outC G o g2 ++ mW G mq f2 a2) H locs := by rw [List.append_nil] at hH; exact hH
  refine lv_istore (lv' := [(6, .int b9), (5, .int kk), (4, .int (nI i)), (0, .ref b), (1, .ref (q 0)), (2, .ref (mq 0)), (3, .ref o)]) hx hb dL_law_363 hl (by decide) rfl (fun ls hl => ?_)
  refine lv_aload_n hx hb dL_law_365 rfl (lv_at hl 5 rfl) ?_
  refine callVI (rest := []) F (c_X3_thrown l G mq f2 a2) gL_law_X3_thrown rfl hdX3_thrown ⟨Nat.le_of_ble_eq_true rfl, Nat.le_of_ble_eq_true rfl⟩ (sw2 u ++ outC G o g2) [] hH (by simp) ⟨0, 3, _, _, rfl, rfl, rfl⟩ rfl hl.1 (Nat.le_of_ble_eq_true rfl) dL_law_366 ⟨by show cells + c1 + 0 + 0 ≤ 601024; omega, by show slots + s1 + 0 + 0 ≤ 7293034; omega⟩ rfl (fun u9 H locs hH => ?_)
  have hH : HH G A s (sw2 u ++ outC G o g2 ++ mW G mq f2 a2) H locs := by rw [List.append_nil] at hH; exact hH
  refine lv_iload hx hb dL_law_369 (lv_at hl 1 rfl) ?_
  refine lv_icmp_eq (tgt := 376) hx hb dL_law_371 (by decide) (fun c9 => ?_) (fun c9 => absurd (h24) c9)
  refine lv_iload hx hb dL_law_376 (lv_at hl 1 rfl) ?_
  refine lv_if_ne (tgt := 393) hx hb dL_law_378 (by decide) (fun ck => ?_) (fun ck => ?_)
  · refine lv_goto (tgt := 1226) hx hb dL_law_393 (by decide) ?_
    refine W.widen (k := cells + 8) (n := slots + 1300) (by show cells + c1 + 0 + 0 ≤ cells + 8; omega) (by show slots + s1 + 0 + 0 ≤ slots + 1300; omega) ?_
    exact hk g2 _ _ _ (hSR u) _ _ _ hH (lv_sub hl [2, 3, 4, 5, 6] rfl)
  · refine lv_aload_n hx hb dL_law_381 rfl (lv_at hl 6 rfl) ?_
    refine lv_iconst (v := 0) hx hb dL_law_382 (by decide) ?_
    refine rlald F hH ((sw2 u).length + 0) (n := 1) (f := g2) (mid_at (a := sw2 u) (w := outC G o g2) (b := mW G mq f2 a2) (k := 0) rfl) 0 rfl (by decide) (by decide) dL_law_383 ?_
    refine lv_iload hx hb dL_law_384 (lv_at hl 0 rfl) ?_
    refine lv_i2l hx hb dL_law_386 rfl ?_
    refine W.lcmp hx hb dL_law_387 ?_
    refine lv_if_eq (tgt := 393) hx hb dL_law_388 (by decide) (fun c9 => ?_) (fun c9 => absurd (by rw [hk0 ck]; exact lg_self _) c9)
    refine lv_goto (tgt := 1226) hx hb dL_law_393 (by decide) ?_
    refine W.widen (k := cells + 8) (n := slots + 1300) (by show cells + c1 + 0 + 0 ≤ cells + 8; omega) (by show slots + s1 + 0 + 0 ≤ slots + 1300; omega) ?_
    exact hk g2 _ _ _ (hSR u) _ _ _ hH (lv_sub hl [2, 3, 4, 5, 6] rfl)

set_option maxHeartbeats 4000000 in
set_option maxRecDepth 100000 in
theorem law_c3 {p : Program} {l : Launch} {e : Env} {s : State} {m : MethodId} {below : List Frame} {meth : Method} {c : Code} {b L : Nat} {xs : Nat → Int32} {A : Nat → Prop} (hst : l.stackTraces = false) (G : Gx) (F : Fx G p s m #[.ref b] meth c cL_law 7 wsL_law RL A) (hbA : ¬ A b) (hL : L ≤ 2560) (hX : va_X b L xs s s.heap) (hbl : b < s.heap.size) (q mq : Nat → Nat) (o : Nat) (g : Nat → Int64) (w : va_W) (f : Nat → Int32) (a : Nat → Nat → Int32) (hS : SR G q w f a) (i : Nat) (hi5 : i + 5 ≤ L) (cells slots : Nat) (hc9 : cells + 8 ≤ 601024) (hs9 : slots + 1300 ≤ 7293034) (Q : State → Prop)
    (hk : ∀ (g2 : Nat → Int64) (w2 : va_W) (f2 : Nat → Int32) (a2 : Nat → Nat → Int32), SR G q w2 f2 a2 → ∀ (H : Heap) (locs : List Loc) (ls : Array Slot), HH G A s (w2 ++ outC G o g2 ++ mW G mq f2 a2) H locs → lv_has ls 7 [(4, .int (nI i)), (0, .ref b), (1, .ref (q 0)), (2, .ref (mq 0)), (3, .ref o)] → W p l e room_1 s m #[.ref b] below meth c H locs (cells + 8) (slots + 1300) Q (F0 m 1226 ls []))
    (H : Heap) (locs : List Loc) (ls : Array Slot) (hH : HH G A s (w ++ outC G o g ++ mW G mq f a) H locs) (hl : lv_has ls 7 [(4, .int (nI i)), (0, .ref b), (1, .ref (q 0)), (2, .ref (mq 0)), (3, .ref o)]) : W p l e room_1 s m #[.ref b] below meth c H locs cells slots Q (F0 m 396 ls []) := by
  have hx := F.1.1
  have hb := F.1.2.1
  refine lv_aload_n hx hb dL_law_396 rfl (lv_at hl 2 rfl) ?_
  refine lv_aload_n hx hb dL_law_397 rfl (lv_at hl 1 rfl) ?_
  refine lv_iload hx hb dL_law_398 (lv_at hl 0 rfl) ?_
  refine lv_iconst (v := 1) hx hb dL_law_400 (by decide) ?_
  refine lv_iadd hx hb dL_law_401 ?_
  refine rsld F hH hX hbl hbA (by omega) (i + 1) (nI_1 i) (by omega) dL_law_402 ?_
  refine lv_aload_n hx hb dL_law_403 rfl (lv_at hl 1 rfl) ?_
  refine lv_iload hx hb dL_law_404 (lv_at hl 0 rfl) ?_
  refine lv_iconst (v := 2) hx hb dL_law_406 (by decide) ?_
  refine lv_iadd hx hb dL_law_407 ?_
  refine rsld F hH hX hbl hbA (by omega) (i + 2) (nI_add i 2) (by omega) dL_law_408 ?_
  refine lv_aload_n hx hb dL_law_409 rfl (lv_at hl 4 rfl) ?_
  obtain ⟨c1, s1, fr3, lo3, kk, b9, g2, sw2, f2, a2, hc1, hs1, hf3, hl3, M1, M2, h24, hk0, hSR⟩ := sim_enrol l hst G q mq o g w f a hS (xs (i + 1)) (xs (i + 2))
  refine callLI (rest := []) F M1 gL_law_L_enrol rfl hdL_enrol.2 ⟨Nat.le_of_ble_eq_true rfl, Nat.le_of_ble_eq_true rfl⟩ [] (mW G mq f a) hH (by simp) rfl hl.1 (Nat.le_of_ble_eq_true rfl) dL_law_410 ⟨by show cells + c1 ≤ 601024; omega, by show slots + s1 ≤ 7293034; omega⟩ rfl (fun u H locs hH => ?_)
  have hH : HH G A s (sw2 u ++ outC G o g2 ++ mW G mq f a) H locs := by rw [List.nil_append] at hH; exact hH
  refine lv_istore (lv' := [(5, .int kk), (4, .int (nI i)), (0, .ref b), (1, .ref (q 0)), (2, .ref (mq 0)), (3, .ref o)]) hx hb dL_law_413 hl (by decide) rfl (fun ls hl => ?_)
  refine lv_aload_n hx hb dL_law_415 rfl (lv_at hl 4 rfl) ?_
  refine lv_aload_n hx hb dL_law_416 rfl (lv_at hl 2 rfl) ?_
  refine lv_iload hx hb dL_law_417 (lv_at hl 1 rfl) ?_
  refine lv_iconst (v := 1) hx hb dL_law_419 (by decide) ?_
  refine lv_iadd hx hb dL_law_420 ?_
  refine rsld F hH hX hbl hbA (by omega) (i + 1) (nI_1 i) (by omega) dL_law_421 ?_
  refine lv_aload_n hx hb dL_law_422 rfl (lv_at hl 2 rfl) ?_
  refine lv_iload hx hb dL_law_423 (lv_at hl 1 rfl) ?_
  refine lv_iconst (v := 2) hx hb dL_law_425 (by decide) ?_
  refine lv_iadd hx hb dL_law_426 ?_
  refine rsld F hH hX hbl hbA (by omega) (i + 2) (nI_add i 2) (by omega) dL_law_427 ?_
  refine callVI (rest := []) F M2 gL_law_X3_enrol rfl hdX3_enrol ⟨by show fr3 + 1 ≤ 11; omega, by show 8 + (3 + 11) + lo3 ≤ 388; omega⟩ (sw2 u ++ outC G o g2) [] hH (by simp) ⟨0, 3, _, _, rfl, rfl, rfl⟩ rfl hl.1 (Nat.le_of_ble_eq_true rfl) dL_law_428 ⟨by show cells + c1 + 0 ≤ 601024; omega, by show slots + s1 + 0 ≤ 7293034; omega⟩ rfl (fun u9 H locs hH => ?_)
  have hH : HH G A s (sw2 u ++ outC G o g2 ++ mW G mq f2 a2) H locs := by rw [List.append_nil] at hH; exact hH
  refine lv_istore (lv' := [(6, .int b9), (5, .int kk), (4, .int (nI i)), (0, .ref b), (1, .ref (q 0)), (2, .ref (mq 0)), (3, .ref o)]) hx hb dL_law_431 hl (by decide) rfl (fun ls hl => ?_)
  refine lv_aload_n hx hb dL_law_433 rfl (lv_at hl 5 rfl) ?_
  refine callVI (rest := []) F (c_X3_thrown l G mq f2 a2) gL_law_X3_thrown rfl hdX3_thrown ⟨Nat.le_of_ble_eq_true rfl, Nat.le_of_ble_eq_true rfl⟩ (sw2 u ++ outC G o g2) [] hH (by simp) ⟨0, 3, _, _, rfl, rfl, rfl⟩ rfl hl.1 (Nat.le_of_ble_eq_true rfl) dL_law_434 ⟨by show cells + c1 + 0 + 0 ≤ 601024; omega, by show slots + s1 + 0 + 0 ≤ 7293034; omega⟩ rfl (fun u9 H locs hH => ?_)
  have hH : HH G A s (sw2 u ++ outC G o g2 ++ mW G mq f2 a2) H locs := by rw [List.append_nil] at hH; exact hH
  refine lv_iload hx hb dL_law_437 (lv_at hl 1 rfl) ?_
  refine lv_icmp_eq (tgt := 444) hx hb dL_law_439 (by decide) (fun c9 => ?_) (fun c9 => absurd (h24) c9)
  refine lv_iload hx hb dL_law_444 (lv_at hl 1 rfl) ?_
  refine lv_if_ne (tgt := 461) hx hb dL_law_446 (by decide) (fun ck => ?_) (fun ck => ?_)
  · refine lv_goto (tgt := 1226) hx hb dL_law_461 (by decide) ?_
    refine W.widen (k := cells + 8) (n := slots + 1300) (by show cells + c1 + 0 + 0 ≤ cells + 8; omega) (by show slots + s1 + 0 + 0 ≤ slots + 1300; omega) ?_
    exact hk g2 _ _ _ (hSR u) _ _ _ hH (lv_sub hl [2, 3, 4, 5, 6] rfl)
  · refine lv_aload_n hx hb dL_law_449 rfl (lv_at hl 6 rfl) ?_
    refine lv_iconst (v := 0) hx hb dL_law_450 (by decide) ?_
    refine rlald F hH ((sw2 u).length + 0) (n := 1) (f := g2) (mid_at (a := sw2 u) (w := outC G o g2) (b := mW G mq f2 a2) (k := 0) rfl) 0 rfl (by decide) (by decide) dL_law_451 ?_
    refine lv_iload hx hb dL_law_452 (lv_at hl 0 rfl) ?_
    refine lv_i2l hx hb dL_law_454 rfl ?_
    refine W.lcmp hx hb dL_law_455 ?_
    refine lv_if_eq (tgt := 461) hx hb dL_law_456 (by decide) (fun c9 => ?_) (fun c9 => absurd (by rw [hk0 ck]; exact lg_self _) c9)
    refine lv_goto (tgt := 1226) hx hb dL_law_461 (by decide) ?_
    refine W.widen (k := cells + 8) (n := slots + 1300) (by show cells + c1 + 0 + 0 ≤ cells + 8; omega) (by show slots + s1 + 0 + 0 ≤ slots + 1300; omega) ?_
    exact hk g2 _ _ _ (hSR u) _ _ _ hH (lv_sub hl [2, 3, 4, 5, 6] rfl)

set_option maxHeartbeats 4000000 in
set_option maxRecDepth 100000 in
theorem law_c4 {p : Program} {l : Launch} {e : Env} {s : State} {m : MethodId} {below : List Frame} {meth : Method} {c : Code} {b L : Nat} {xs : Nat → Int32} {A : Nat → Prop} (hst : l.stackTraces = false) (G : Gx) (F : Fx G p s m #[.ref b] meth c cL_law 7 wsL_law RL A) (hbA : ¬ A b) (hL : L ≤ 2560) (hX : va_X b L xs s s.heap) (hbl : b < s.heap.size) (q mq : Nat → Nat) (o : Nat) (g : Nat → Int64) (w : va_W) (f : Nat → Int32) (a : Nat → Nat → Int32) (hS : SR G q w f a) (i : Nat) (hi5 : i + 5 ≤ L) (cells slots : Nat) (hc9 : cells + 8 ≤ 601024) (hs9 : slots + 1300 ≤ 7293034) (Q : State → Prop)
    (hk : ∀ (g2 : Nat → Int64) (w2 : va_W) (f2 : Nat → Int32) (a2 : Nat → Nat → Int32), SR G q w2 f2 a2 → ∀ (H : Heap) (locs : List Loc) (ls : Array Slot), HH G A s (w2 ++ outC G o g2 ++ mW G mq f2 a2) H locs → lv_has ls 7 [(4, .int (nI i)), (0, .ref b), (1, .ref (q 0)), (2, .ref (mq 0)), (3, .ref o)] → W p l e room_1 s m #[.ref b] below meth c H locs (cells + 8) (slots + 1300) Q (F0 m 1226 ls []))
    (H : Heap) (locs : List Loc) (ls : Array Slot) (hH : HH G A s (w ++ outC G o g ++ mW G mq f a) H locs) (hl : lv_has ls 7 [(4, .int (nI i)), (0, .ref b), (1, .ref (q 0)), (2, .ref (mq 0)), (3, .ref o)]) : W p l e room_1 s m #[.ref b] below meth c H locs cells slots Q (F0 m 464 ls []) := by
  have hx := F.1.1
  have hb := F.1.2.1
  refine lv_aload_n hx hb dL_law_464 rfl (lv_at hl 2 rfl) ?_
  refine lv_aload_n hx hb dL_law_465 rfl (lv_at hl 1 rfl) ?_
  refine lv_iload hx hb dL_law_466 (lv_at hl 0 rfl) ?_
  refine lv_iconst (v := 1) hx hb dL_law_468 (by decide) ?_
  refine lv_iadd hx hb dL_law_469 ?_
  refine rsld F hH hX hbl hbA (by omega) (i + 1) (nI_1 i) (by omega) dL_law_470 ?_
  refine lv_aload_n hx hb dL_law_471 rfl (lv_at hl 4 rfl) ?_
  obtain ⟨c1, s1, fr3, lo3, kk, b9, g2, sw2, f2, a2, hc1, hs1, hf3, hl3, M1, M2, h24, hk0, hSR⟩ := sim_setFloor l hst G q mq o g w f a hS (xs (i + 1))
  refine callLI (rest := []) F M1 gL_law_L_setFloor rfl hdL_setFloor.2 ⟨Nat.le_of_ble_eq_true rfl, Nat.le_of_ble_eq_true rfl⟩ [] (mW G mq f a) hH (by simp) rfl hl.1 (Nat.le_of_ble_eq_true rfl) dL_law_472 ⟨by show cells + c1 ≤ 601024; omega, by show slots + s1 ≤ 7293034; omega⟩ rfl (fun u H locs hH => ?_)
  have hH : HH G A s (sw2 u ++ outC G o g2 ++ mW G mq f a) H locs := by rw [List.nil_append] at hH; exact hH
  refine lv_istore (lv' := [(5, .int kk), (4, .int (nI i)), (0, .ref b), (1, .ref (q 0)), (2, .ref (mq 0)), (3, .ref o)]) hx hb dL_law_475 hl (by decide) rfl (fun ls hl => ?_)
  refine lv_aload_n hx hb dL_law_477 rfl (lv_at hl 4 rfl) ?_
  refine lv_aload_n hx hb dL_law_478 rfl (lv_at hl 2 rfl) ?_
  refine lv_iload hx hb dL_law_479 (lv_at hl 1 rfl) ?_
  refine lv_iconst (v := 1) hx hb dL_law_481 (by decide) ?_
  refine lv_iadd hx hb dL_law_482 ?_
  refine rsld F hH hX hbl hbA (by omega) (i + 1) (nI_1 i) (by omega) dL_law_483 ?_
  refine callVI (rest := []) F M2 gL_law_X3_setFloor rfl hdX3_setFloor ⟨by show fr3 + 1 ≤ 11; omega, by show 8 + (3 + 11) + lo3 ≤ 388; omega⟩ (sw2 u ++ outC G o g2) [] hH (by simp) ⟨0, 3, _, _, rfl, rfl, rfl⟩ rfl hl.1 (Nat.le_of_ble_eq_true rfl) dL_law_484 ⟨by show cells + c1 + 0 ≤ 601024; omega, by show slots + s1 + 0 ≤ 7293034; omega⟩ rfl (fun u9 H locs hH => ?_)
  have hH : HH G A s (sw2 u ++ outC G o g2 ++ mW G mq f2 a2) H locs := by rw [List.append_nil] at hH; exact hH
  refine lv_istore (lv' := [(6, .int b9), (5, .int kk), (4, .int (nI i)), (0, .ref b), (1, .ref (q 0)), (2, .ref (mq 0)), (3, .ref o)]) hx hb dL_law_487 hl (by decide) rfl (fun ls hl => ?_)
  refine lv_aload_n hx hb dL_law_489 rfl (lv_at hl 5 rfl) ?_
  refine callVI (rest := []) F (c_X3_thrown l G mq f2 a2) gL_law_X3_thrown rfl hdX3_thrown ⟨Nat.le_of_ble_eq_true rfl, Nat.le_of_ble_eq_true rfl⟩ (sw2 u ++ outC G o g2) [] hH (by simp) ⟨0, 3, _, _, rfl, rfl, rfl⟩ rfl hl.1 (Nat.le_of_ble_eq_true rfl) dL_law_490 ⟨by show cells + c1 + 0 + 0 ≤ 601024; omega, by show slots + s1 + 0 + 0 ≤ 7293034; omega⟩ rfl (fun u9 H locs hH => ?_)
  have hH : HH G A s (sw2 u ++ outC G o g2 ++ mW G mq f2 a2) H locs := by rw [List.append_nil] at hH; exact hH
  refine lv_iload hx hb dL_law_493 (lv_at hl 1 rfl) ?_
  refine lv_icmp_eq (tgt := 500) hx hb dL_law_495 (by decide) (fun c9 => ?_) (fun c9 => absurd (h24) c9)
  refine lv_iload hx hb dL_law_500 (lv_at hl 1 rfl) ?_
  refine lv_if_ne (tgt := 517) hx hb dL_law_502 (by decide) (fun ck => ?_) (fun ck => ?_)
  · refine lv_goto (tgt := 1226) hx hb dL_law_517 (by decide) ?_
    refine W.widen (k := cells + 8) (n := slots + 1300) (by show cells + c1 + 0 + 0 ≤ cells + 8; omega) (by show slots + s1 + 0 + 0 ≤ slots + 1300; omega) ?_
    exact hk g2 _ _ _ (hSR u) _ _ _ hH (lv_sub hl [2, 3, 4, 5, 6] rfl)
  · refine lv_aload_n hx hb dL_law_505 rfl (lv_at hl 6 rfl) ?_
    refine lv_iconst (v := 0) hx hb dL_law_506 (by decide) ?_
    refine rlald F hH ((sw2 u).length + 0) (n := 1) (f := g2) (mid_at (a := sw2 u) (w := outC G o g2) (b := mW G mq f2 a2) (k := 0) rfl) 0 rfl (by decide) (by decide) dL_law_507 ?_
    refine lv_iload hx hb dL_law_508 (lv_at hl 0 rfl) ?_
    refine lv_i2l hx hb dL_law_510 rfl ?_
    refine W.lcmp hx hb dL_law_511 ?_
    refine lv_if_eq (tgt := 517) hx hb dL_law_512 (by decide) (fun c9 => ?_) (fun c9 => absurd (by rw [hk0 ck]; exact lg_self _) c9)
    refine lv_goto (tgt := 1226) hx hb dL_law_517 (by decide) ?_
    refine W.widen (k := cells + 8) (n := slots + 1300) (by show cells + c1 + 0 + 0 ≤ cells + 8; omega) (by show slots + s1 + 0 + 0 ≤ slots + 1300; omega) ?_
    exact hk g2 _ _ _ (hSR u) _ _ _ hH (lv_sub hl [2, 3, 4, 5, 6] rfl)

set_option maxHeartbeats 4000000 in
set_option maxRecDepth 100000 in
theorem law_c5 {p : Program} {l : Launch} {e : Env} {s : State} {m : MethodId} {below : List Frame} {meth : Method} {c : Code} {b L : Nat} {xs : Nat → Int32} {A : Nat → Prop} (hst : l.stackTraces = false) (G : Gx) (F : Fx G p s m #[.ref b] meth c cL_law 7 wsL_law RL A) (hbA : ¬ A b) (hL : L ≤ 2560) (hX : va_X b L xs s s.heap) (hbl : b < s.heap.size) (q mq : Nat → Nat) (o : Nat) (g : Nat → Int64) (w : va_W) (f : Nat → Int32) (a : Nat → Nat → Int32) (hS : SR G q w f a) (i : Nat) (hi5 : i + 5 ≤ L) (cells slots : Nat) (hc9 : cells + 8 ≤ 601024) (hs9 : slots + 1300 ≤ 7293034) (Q : State → Prop)
    (hk : ∀ (g2 : Nat → Int64) (w2 : va_W) (f2 : Nat → Int32) (a2 : Nat → Nat → Int32), SR G q w2 f2 a2 → ∀ (H : Heap) (locs : List Loc) (ls : Array Slot), HH G A s (w2 ++ outC G o g2 ++ mW G mq f2 a2) H locs → lv_has ls 7 [(4, .int (nI i)), (0, .ref b), (1, .ref (q 0)), (2, .ref (mq 0)), (3, .ref o)] → W p l e room_1 s m #[.ref b] below meth c H locs (cells + 8) (slots + 1300) Q (F0 m 1226 ls []))
    (H : Heap) (locs : List Loc) (ls : Array Slot) (hH : HH G A s (w ++ outC G o g ++ mW G mq f a) H locs) (hl : lv_has ls 7 [(4, .int (nI i)), (0, .ref b), (1, .ref (q 0)), (2, .ref (mq 0)), (3, .ref o)]) : W p l e room_1 s m #[.ref b] below meth c H locs cells slots Q (F0 m 520 ls []) := by
  have hx := F.1.1
  have hb := F.1.2.1
  refine lv_aload_n hx hb dL_law_520 rfl (lv_at hl 2 rfl) ?_
  obtain ⟨n, nc, t, fl, fd, k, wd, wf, wa, cd, cf, hw9, R9⟩ := hS
  subst hw9
  refine callVI (rest := []) F (c_X2_workers l G q n nc t fl fd k wd wf wa cd cf) gL_law_X2_workers rfl hdX2_workers ⟨Nat.le_of_ble_eq_true rfl, Nat.le_of_ble_eq_true rfl⟩ [] (outC G o g ++ mW G mq f a) hH (by simp) ⟨0, 2, _, _, rfl, rfl, rfl⟩ rfl hl.1 (Nat.le_of_ble_eq_true rfl) dL_law_521 ⟨by show cells + 0 ≤ 601024; omega, by show slots + 0 ≤ 7293034; omega⟩ rfl (fun u H locs hH => ?_)
  have hH : HH G A s (sW G q n nc t fl fd k wd wf wa cd cf ++ outC G o g ++ mW G mq f a) H locs := by rw [List.nil_append, ← List.append_assoc] at hH; exact hH
  refine lv_aload_n hx hb dL_law_524 rfl (lv_at hl 3 rfl) ?_
  refine callVI (rest := [.int (nI n)]) F (c_X3_workers l G mq f a) gL_law_X3_workers rfl hdX3_workers ⟨Nat.le_of_ble_eq_true rfl, Nat.le_of_ble_eq_true rfl⟩ (sW G q n nc t fl fd k wd wf wa cd cf ++ outC G o g) [] hH (by simp) ⟨0, 3, _, _, rfl, rfl, rfl⟩ rfl hl.1 (Nat.le_of_ble_eq_true rfl) dL_law_525 ⟨by show cells + 0 + 0 ≤ 601024; omega, by show slots + 0 + 0 ≤ 7293034; omega⟩ rfl (fun u H locs hH => ?_)
  have hH : HH G A s (sW G q n nc t fl fd k wd wf wa cd cf ++ outC G o g ++ mW G mq (va_up f 24 0) a) H locs := by rw [List.append_nil] at hH; exact hH
  refine lv_icmp_eq (tgt := 1226) hx hb dL_law_528 (by decide) (fun c9 => ?_) (fun c9 => absurd (R9.1.2.2.2.1.symm) c9)
  refine W.widen (k := cells + 8) (n := slots + 1300) (by show cells + 0 + 0 ≤ cells + 8; omega) (by show slots + 0 + 0 ≤ slots + 1300; omega) ?_
  exact hk g _ _ _ ⟨n, nc, t, fl, fd, k, wd, wf, wa, cd, cf, rfl, R9.up24 0⟩ _ _ _ hH (lv_sub hl [0, 1, 2, 3, 4] rfl)

set_option maxHeartbeats 4000000 in
set_option maxRecDepth 100000 in
theorem law_c6 {p : Program} {l : Launch} {e : Env} {s : State} {m : MethodId} {below : List Frame} {meth : Method} {c : Code} {b L : Nat} {xs : Nat → Int32} {A : Nat → Prop} (hst : l.stackTraces = false) (G : Gx) (F : Fx G p s m #[.ref b] meth c cL_law 7 wsL_law RL A) (hbA : ¬ A b) (hL : L ≤ 2560) (hX : va_X b L xs s s.heap) (hbl : b < s.heap.size) (q mq : Nat → Nat) (o : Nat) (g : Nat → Int64) (w : va_W) (f : Nat → Int32) (a : Nat → Nat → Int32) (hS : SR G q w f a) (i : Nat) (hi5 : i + 5 ≤ L) (cells slots : Nat) (hc9 : cells + 8 ≤ 601024) (hs9 : slots + 1300 ≤ 7293034) (Q : State → Prop)
    (hk : ∀ (g2 : Nat → Int64) (w2 : va_W) (f2 : Nat → Int32) (a2 : Nat → Nat → Int32), SR G q w2 f2 a2 → ∀ (H : Heap) (locs : List Loc) (ls : Array Slot), HH G A s (w2 ++ outC G o g2 ++ mW G mq f2 a2) H locs → lv_has ls 7 [(4, .int (nI i)), (0, .ref b), (1, .ref (q 0)), (2, .ref (mq 0)), (3, .ref o)] → W p l e room_1 s m #[.ref b] below meth c H locs (cells + 8) (slots + 1300) Q (F0 m 1226 ls []))
    (H : Heap) (locs : List Loc) (ls : Array Slot) (hH : HH G A s (w ++ outC G o g ++ mW G mq f a) H locs) (hl : lv_has ls 7 [(4, .int (nI i)), (0, .ref b), (1, .ref (q 0)), (2, .ref (mq 0)), (3, .ref o)]) : W p l e room_1 s m #[.ref b] below meth c H locs cells slots Q (F0 m 533 ls []) := by
  have hx := F.1.1
  have hb := F.1.2.1
  refine lv_aload_n hx hb dL_law_533 rfl (lv_at hl 2 rfl) ?_
  refine lv_aload_n hx hb dL_law_534 rfl (lv_at hl 1 rfl) ?_
  refine lv_iload hx hb dL_law_535 (lv_at hl 0 rfl) ?_
  refine lv_iconst (v := 1) hx hb dL_law_537 (by decide) ?_
  refine lv_iadd hx hb dL_law_538 ?_
  refine rsld F hH hX hbl hbA (by omega) (i + 1) (nI_1 i) (by omega) dL_law_539 ?_
  refine lv_aload_n hx hb dL_law_540 rfl (lv_at hl 1 rfl) ?_
  refine lv_iload hx hb dL_law_541 (lv_at hl 0 rfl) ?_
  refine lv_iconst (v := 2) hx hb dL_law_543 (by decide) ?_
  refine lv_iadd hx hb dL_law_544 ?_
  refine rsld F hH hX hbl hbA (by omega) (i + 2) (nI_add i 2) (by omega) dL_law_545 ?_
  refine lv_aload_n hx hb dL_law_546 rfl (lv_at hl 4 rfl) ?_
  obtain ⟨c1, s1, fr3, lo3, kk, b9, g2, sw2, f2, a2, hc1, hs1, hf3, hl3, M1, M2, h24, hk0, hSR⟩ := sim_cut l hst G q mq o g w f a hS (xs (i + 1)) (xs (i + 2))
  refine callLI (rest := []) F M1 gL_law_L_cut rfl hdL_cut.2 ⟨Nat.le_of_ble_eq_true rfl, Nat.le_of_ble_eq_true rfl⟩ [] (mW G mq f a) hH (by simp) rfl hl.1 (Nat.le_of_ble_eq_true rfl) dL_law_547 ⟨by show cells + c1 ≤ 601024; omega, by show slots + s1 ≤ 7293034; omega⟩ rfl (fun u H locs hH => ?_)
  have hH : HH G A s (sw2 u ++ outC G o g2 ++ mW G mq f a) H locs := by rw [List.nil_append] at hH; exact hH
  refine lv_istore (lv' := [(5, .int kk), (4, .int (nI i)), (0, .ref b), (1, .ref (q 0)), (2, .ref (mq 0)), (3, .ref o)]) hx hb dL_law_550 hl (by decide) rfl (fun ls hl => ?_)
  refine lv_aload_n hx hb dL_law_552 rfl (lv_at hl 4 rfl) ?_
  refine lv_aload_n hx hb dL_law_553 rfl (lv_at hl 2 rfl) ?_
  refine lv_iload hx hb dL_law_554 (lv_at hl 1 rfl) ?_
  refine lv_iconst (v := 1) hx hb dL_law_556 (by decide) ?_
  refine lv_iadd hx hb dL_law_557 ?_
  refine rsld F hH hX hbl hbA (by omega) (i + 1) (nI_1 i) (by omega) dL_law_558 ?_
  refine lv_aload_n hx hb dL_law_559 rfl (lv_at hl 2 rfl) ?_
  refine lv_iload hx hb dL_law_560 (lv_at hl 1 rfl) ?_
  refine lv_iconst (v := 2) hx hb dL_law_562 (by decide) ?_
  refine lv_iadd hx hb dL_law_563 ?_
  refine rsld F hH hX hbl hbA (by omega) (i + 2) (nI_add i 2) (by omega) dL_law_564 ?_
  refine callVI (rest := []) F M2 gL_law_X3_cut rfl hdX3_cut ⟨by show fr3 + 1 ≤ 11; omega, by show 8 + (3 + 11) + lo3 ≤ 388; omega⟩ (sw2 u ++ outC G o g2) [] hH (by simp) ⟨0, 3, _, _, rfl, rfl, rfl⟩ rfl hl.1 (Nat.le_of_ble_eq_true rfl) dL_law_565 ⟨by show cells + c1 + 0 ≤ 601024; omega, by show slots + s1 + 0 ≤ 7293034; omega⟩ rfl (fun u9 H locs hH => ?_)
  have hH : HH G A s (sw2 u ++ outC G o g2 ++ mW G mq f2 a2) H locs := by rw [List.append_nil] at hH; exact hH
  refine lv_istore (lv' := [(6, .int b9), (5, .int kk), (4, .int (nI i)), (0, .ref b), (1, .ref (q 0)), (2, .ref (mq 0)), (3, .ref o)]) hx hb dL_law_568 hl (by decide) rfl (fun ls hl => ?_)
  refine lv_aload_n hx hb dL_law_570 rfl (lv_at hl 5 rfl) ?_
  refine callVI (rest := []) F (c_X3_thrown l G mq f2 a2) gL_law_X3_thrown rfl hdX3_thrown ⟨Nat.le_of_ble_eq_true rfl, Nat.le_of_ble_eq_true rfl⟩ (sw2 u ++ outC G o g2) [] hH (by simp) ⟨0, 3, _, _, rfl, rfl, rfl⟩ rfl hl.1 (Nat.le_of_ble_eq_true rfl) dL_law_571 ⟨by show cells + c1 + 0 + 0 ≤ 601024; omega, by show slots + s1 + 0 + 0 ≤ 7293034; omega⟩ rfl (fun u9 H locs hH => ?_)
  have hH : HH G A s (sw2 u ++ outC G o g2 ++ mW G mq f2 a2) H locs := by rw [List.append_nil] at hH; exact hH
  refine lv_iload hx hb dL_law_574 (lv_at hl 1 rfl) ?_
  refine lv_icmp_eq (tgt := 581) hx hb dL_law_576 (by decide) (fun c9 => ?_) (fun c9 => absurd (h24) c9)
  refine lv_iload hx hb dL_law_581 (lv_at hl 1 rfl) ?_
  refine lv_if_ne (tgt := 598) hx hb dL_law_583 (by decide) (fun ck => ?_) (fun ck => ?_)
  · refine lv_goto (tgt := 1226) hx hb dL_law_598 (by decide) ?_
    refine W.widen (k := cells + 8) (n := slots + 1300) (by show cells + c1 + 0 + 0 ≤ cells + 8; omega) (by show slots + s1 + 0 + 0 ≤ slots + 1300; omega) ?_
    exact hk g2 _ _ _ (hSR u) _ _ _ hH (lv_sub hl [2, 3, 4, 5, 6] rfl)
  · refine lv_aload_n hx hb dL_law_586 rfl (lv_at hl 6 rfl) ?_
    refine lv_iconst (v := 0) hx hb dL_law_587 (by decide) ?_
    refine rlald F hH ((sw2 u).length + 0) (n := 1) (f := g2) (mid_at (a := sw2 u) (w := outC G o g2) (b := mW G mq f2 a2) (k := 0) rfl) 0 rfl (by decide) (by decide) dL_law_588 ?_
    refine lv_iload hx hb dL_law_589 (lv_at hl 0 rfl) ?_
    refine lv_i2l hx hb dL_law_591 rfl ?_
    refine W.lcmp hx hb dL_law_592 ?_
    refine lv_if_eq (tgt := 598) hx hb dL_law_593 (by decide) (fun c9 => ?_) (fun c9 => absurd (by rw [hk0 ck]; exact lg_self _) c9)
    refine lv_goto (tgt := 1226) hx hb dL_law_598 (by decide) ?_
    refine W.widen (k := cells + 8) (n := slots + 1300) (by show cells + c1 + 0 + 0 ≤ cells + 8; omega) (by show slots + s1 + 0 + 0 ≤ slots + 1300; omega) ?_
    exact hk g2 _ _ _ (hSR u) _ _ _ hH (lv_sub hl [2, 3, 4, 5, 6] rfl)

set_option maxHeartbeats 4000000 in
set_option maxRecDepth 100000 in
theorem law_c7 {p : Program} {l : Launch} {e : Env} {s : State} {m : MethodId} {below : List Frame} {meth : Method} {c : Code} {b L : Nat} {xs : Nat → Int32} {A : Nat → Prop} (hst : l.stackTraces = false) (G : Gx) (F : Fx G p s m #[.ref b] meth c cL_law 7 wsL_law RL A) (hbA : ¬ A b) (hL : L ≤ 2560) (hX : va_X b L xs s s.heap) (hbl : b < s.heap.size) (q mq : Nat → Nat) (o : Nat) (g : Nat → Int64) (w : va_W) (f : Nat → Int32) (a : Nat → Nat → Int32) (hS : SR G q w f a) (i : Nat) (hi5 : i + 5 ≤ L) (cells slots : Nat) (hc9 : cells + 8 ≤ 601024) (hs9 : slots + 1300 ≤ 7293034) (Q : State → Prop)
    (hk : ∀ (g2 : Nat → Int64) (w2 : va_W) (f2 : Nat → Int32) (a2 : Nat → Nat → Int32), SR G q w2 f2 a2 → ∀ (H : Heap) (locs : List Loc) (ls : Array Slot), HH G A s (w2 ++ outC G o g2 ++ mW G mq f2 a2) H locs → lv_has ls 7 [(4, .int (nI i)), (0, .ref b), (1, .ref (q 0)), (2, .ref (mq 0)), (3, .ref o)] → W p l e room_1 s m #[.ref b] below meth c H locs (cells + 8) (slots + 1300) Q (F0 m 1226 ls []))
    (H : Heap) (locs : List Loc) (ls : Array Slot) (hH : HH G A s (w ++ outC G o g ++ mW G mq f a) H locs) (hl : lv_has ls 7 [(4, .int (nI i)), (0, .ref b), (1, .ref (q 0)), (2, .ref (mq 0)), (3, .ref o)]) : W p l e room_1 s m #[.ref b] below meth c H locs cells slots Q (F0 m 601 ls []) := by
  have hx := F.1.1
  have hb := F.1.2.1
  refine lv_aload_n hx hb dL_law_601 rfl (lv_at hl 2 rfl) ?_
  refine lv_aload_n hx hb dL_law_602 rfl (lv_at hl 1 rfl) ?_
  refine lv_iload hx hb dL_law_603 (lv_at hl 0 rfl) ?_
  refine lv_iconst (v := 1) hx hb dL_law_605 (by decide) ?_
  refine lv_iadd hx hb dL_law_606 ?_
  refine rsld F hH hX hbl hbA (by omega) (i + 1) (nI_1 i) (by omega) dL_law_607 ?_
  refine lv_aload_n hx hb dL_law_608 rfl (lv_at hl 1 rfl) ?_
  refine lv_iload hx hb dL_law_609 (lv_at hl 0 rfl) ?_
  refine lv_iconst (v := 2) hx hb dL_law_611 (by decide) ?_
  refine lv_iadd hx hb dL_law_612 ?_
  refine rsld F hH hX hbl hbA (by omega) (i + 2) (nI_add i 2) (by omega) dL_law_613 ?_
  refine lv_aload_n hx hb dL_law_614 rfl (lv_at hl 4 rfl) ?_
  obtain ⟨c1, s1, fr3, lo3, kk, b9, g2, sw2, f2, a2, hc1, hs1, hf3, hl3, M1, M2, h24, hk0, hSR⟩ := sim_isFilled l hst G q mq o g w f a hS (xs (i + 1)) (xs (i + 2))
  refine callLI (rest := []) F M1 gL_law_L_isFilled rfl hdL_isFilled.2 ⟨Nat.le_of_ble_eq_true rfl, Nat.le_of_ble_eq_true rfl⟩ [] (mW G mq f a) hH (by simp) rfl hl.1 (Nat.le_of_ble_eq_true rfl) dL_law_615 ⟨by show cells + c1 ≤ 601024; omega, by show slots + s1 ≤ 7293034; omega⟩ rfl (fun u H locs hH => ?_)
  have hH : HH G A s (sw2 u ++ outC G o g2 ++ mW G mq f a) H locs := by rw [List.nil_append] at hH; exact hH
  refine lv_istore (lv' := [(5, .int kk), (4, .int (nI i)), (0, .ref b), (1, .ref (q 0)), (2, .ref (mq 0)), (3, .ref o)]) hx hb dL_law_618 hl (by decide) rfl (fun ls hl => ?_)
  refine lv_aload_n hx hb dL_law_620 rfl (lv_at hl 4 rfl) ?_
  refine lv_aload_n hx hb dL_law_621 rfl (lv_at hl 2 rfl) ?_
  refine lv_iload hx hb dL_law_622 (lv_at hl 1 rfl) ?_
  refine lv_iconst (v := 1) hx hb dL_law_624 (by decide) ?_
  refine lv_iadd hx hb dL_law_625 ?_
  refine rsld F hH hX hbl hbA (by omega) (i + 1) (nI_1 i) (by omega) dL_law_626 ?_
  refine lv_aload_n hx hb dL_law_627 rfl (lv_at hl 2 rfl) ?_
  refine lv_iload hx hb dL_law_628 (lv_at hl 1 rfl) ?_
  refine lv_iconst (v := 2) hx hb dL_law_630 (by decide) ?_
  refine lv_iadd hx hb dL_law_631 ?_
  refine rsld F hH hX hbl hbA (by omega) (i + 2) (nI_add i 2) (by omega) dL_law_632 ?_
  refine callVI (rest := []) F M2 gL_law_X3_isFilled rfl hdX3_isFilled ⟨by show fr3 + 1 ≤ 11; omega, by show 8 + (3 + 11) + lo3 ≤ 388; omega⟩ (sw2 u ++ outC G o g2) [] hH (by simp) ⟨0, 3, _, _, rfl, rfl, rfl⟩ rfl hl.1 (Nat.le_of_ble_eq_true rfl) dL_law_633 ⟨by show cells + c1 + 0 ≤ 601024; omega, by show slots + s1 + 0 ≤ 7293034; omega⟩ rfl (fun u9 H locs hH => ?_)
  have hH : HH G A s (sw2 u ++ outC G o g2 ++ mW G mq f2 a2) H locs := by rw [List.append_nil] at hH; exact hH
  refine lv_istore (lv' := [(6, .int b9), (5, .int kk), (4, .int (nI i)), (0, .ref b), (1, .ref (q 0)), (2, .ref (mq 0)), (3, .ref o)]) hx hb dL_law_636 hl (by decide) rfl (fun ls hl => ?_)
  refine lv_aload_n hx hb dL_law_638 rfl (lv_at hl 5 rfl) ?_
  refine callVI (rest := []) F (c_X3_thrown l G mq f2 a2) gL_law_X3_thrown rfl hdX3_thrown ⟨Nat.le_of_ble_eq_true rfl, Nat.le_of_ble_eq_true rfl⟩ (sw2 u ++ outC G o g2) [] hH (by simp) ⟨0, 3, _, _, rfl, rfl, rfl⟩ rfl hl.1 (Nat.le_of_ble_eq_true rfl) dL_law_639 ⟨by show cells + c1 + 0 + 0 ≤ 601024; omega, by show slots + s1 + 0 + 0 ≤ 7293034; omega⟩ rfl (fun u9 H locs hH => ?_)
  have hH : HH G A s (sw2 u ++ outC G o g2 ++ mW G mq f2 a2) H locs := by rw [List.append_nil] at hH; exact hH
  refine lv_iload hx hb dL_law_642 (lv_at hl 1 rfl) ?_
  refine lv_icmp_eq (tgt := 649) hx hb dL_law_644 (by decide) (fun c9 => ?_) (fun c9 => absurd (h24) c9)
  refine lv_iload hx hb dL_law_649 (lv_at hl 1 rfl) ?_
  refine lv_if_ne (tgt := 673) hx hb dL_law_651 (by decide) (fun ck => ?_) (fun ck => ?_)
  · refine lv_goto (tgt := 1226) hx hb dL_law_673 (by decide) ?_
    refine W.widen (k := cells + 8) (n := slots + 1300) (by show cells + c1 + 0 + 0 ≤ cells + 8; omega) (by show slots + s1 + 0 + 0 ≤ slots + 1300; omega) ?_
    exact hk g2 _ _ _ (hSR u) _ _ _ hH (lv_sub hl [2, 3, 4, 5, 6] rfl)
  · refine lv_aload_n hx hb dL_law_654 rfl (lv_at hl 6 rfl) ?_
    refine lv_iconst (v := 0) hx hb dL_law_655 (by decide) ?_
    refine rlald F hH ((sw2 u).length + 0) (n := 1) (f := g2) (mid_at (a := sw2 u) (w := outC G o g2) (b := mW G mq f2 a2) (k := 0) rfl) 0 rfl (by decide) (by decide) dL_law_656 ?_
    refine lv_iload hx hb dL_law_657 (lv_at hl 0 rfl) ?_
    refine lv_if_eq (tgt := 666) hx hb dL_law_659 (by decide) (fun cz => ?_) (fun cz => ?_)
    · refine lv_lconst (v := 0) hx hb dL_law_666 (by decide) ?_
      refine W.lcmp hx hb dL_law_667 ?_
      refine lv_if_eq (tgt := 673) hx hb dL_law_668 (by decide) (fun c9 => ?_) (fun c9 => absurd (by rw [hk0 ck]; exact (by rw [if_pos rfl, if_pos cz]; exact lg_self _)) c9)
      refine lv_goto (tgt := 1226) hx hb dL_law_673 (by decide) ?_
      refine W.widen (k := cells + 8) (n := slots + 1300) (by show cells + c1 + 0 + 0 ≤ cells + 8; omega) (by show slots + s1 + 0 + 0 ≤ slots + 1300; omega) ?_
      exact hk g2 _ _ _ (hSR u) _ _ _ hH (lv_sub hl [2, 3, 4, 5, 6] rfl)
    · refine lv_lconst (v := 1) hx hb dL_law_662 (by decide) ?_
      refine lv_goto (tgt := 667) hx hb dL_law_663 (by decide) ?_
      refine W.lcmp hx hb dL_law_667 ?_
      refine lv_if_eq (tgt := 673) hx hb dL_law_668 (by decide) (fun c9 => ?_) (fun c9 => absurd (by rw [hk0 ck]; exact (by rw [if_pos rfl, if_neg cz]; exact lg_self _)) c9)
      refine lv_goto (tgt := 1226) hx hb dL_law_673 (by decide) ?_
      refine W.widen (k := cells + 8) (n := slots + 1300) (by show cells + c1 + 0 + 0 ≤ cells + 8; omega) (by show slots + s1 + 0 + 0 ≤ slots + 1300; omega) ?_
      exact hk g2 _ _ _ (hSR u) _ _ _ hH (lv_sub hl [2, 3, 4, 5, 6] rfl)

set_option maxHeartbeats 4000000 in
set_option maxRecDepth 100000 in
theorem law_c8 {p : Program} {l : Launch} {e : Env} {s : State} {m : MethodId} {below : List Frame} {meth : Method} {c : Code} {b L : Nat} {xs : Nat → Int32} {A : Nat → Prop} (hst : l.stackTraces = false) (G : Gx) (F : Fx G p s m #[.ref b] meth c cL_law 7 wsL_law RL A) (hbA : ¬ A b) (hL : L ≤ 2560) (hX : va_X b L xs s s.heap) (hbl : b < s.heap.size) (q mq : Nat → Nat) (o : Nat) (g : Nat → Int64) (w : va_W) (f : Nat → Int32) (a : Nat → Nat → Int32) (hS : SR G q w f a) (i : Nat) (hi5 : i + 5 ≤ L) (cells slots : Nat) (hc9 : cells + 8 ≤ 601024) (hs9 : slots + 1300 ≤ 7293034) (Q : State → Prop)
    (hk : ∀ (g2 : Nat → Int64) (w2 : va_W) (f2 : Nat → Int32) (a2 : Nat → Nat → Int32), SR G q w2 f2 a2 → ∀ (H : Heap) (locs : List Loc) (ls : Array Slot), HH G A s (w2 ++ outC G o g2 ++ mW G mq f2 a2) H locs → lv_has ls 7 [(4, .int (nI i)), (0, .ref b), (1, .ref (q 0)), (2, .ref (mq 0)), (3, .ref o)] → W p l e room_1 s m #[.ref b] below meth c H locs (cells + 8) (slots + 1300) Q (F0 m 1226 ls []))
    (H : Heap) (locs : List Loc) (ls : Array Slot) (hH : HH G A s (w ++ outC G o g ++ mW G mq f a) H locs) (hl : lv_has ls 7 [(4, .int (nI i)), (0, .ref b), (1, .ref (q 0)), (2, .ref (mq 0)), (3, .ref o)]) : W p l e room_1 s m #[.ref b] below meth c H locs cells slots Q (F0 m 676 ls []) := by
  have hx := F.1.1
  have hb := F.1.2.1
  refine lv_aload_n hx hb dL_law_676 rfl (lv_at hl 2 rfl) ?_
  refine lv_aload_n hx hb dL_law_677 rfl (lv_at hl 1 rfl) ?_
  refine lv_iload hx hb dL_law_678 (lv_at hl 0 rfl) ?_
  refine lv_iconst (v := 1) hx hb dL_law_680 (by decide) ?_
  refine lv_iadd hx hb dL_law_681 ?_
  refine rsld F hH hX hbl hbA (by omega) (i + 1) (nI_1 i) (by omega) dL_law_682 ?_
  refine lv_aload_n hx hb dL_law_683 rfl (lv_at hl 4 rfl) ?_
  obtain ⟨c1, s1, fr3, lo3, kk, b9, g2, sw2, f2, a2, hc1, hs1, hf3, hl3, M1, M2, h24, hk0, hSR⟩ := sim_pass l hst G q mq o g w f a hS (xs (i + 1))
  refine callLI (rest := []) F M1 gL_law_L_pass rfl hdL_pass.2 ⟨Nat.le_of_ble_eq_true rfl, Nat.le_of_ble_eq_true rfl⟩ [] (mW G mq f a) hH (by simp) rfl hl.1 (Nat.le_of_ble_eq_true rfl) dL_law_684 ⟨by show cells + c1 ≤ 601024; omega, by show slots + s1 ≤ 7293034; omega⟩ rfl (fun u H locs hH => ?_)
  have hH : HH G A s (sw2 u ++ outC G o g2 ++ mW G mq f a) H locs := by rw [List.nil_append] at hH; exact hH
  refine lv_istore (lv' := [(5, .int kk), (4, .int (nI i)), (0, .ref b), (1, .ref (q 0)), (2, .ref (mq 0)), (3, .ref o)]) hx hb dL_law_687 hl (by decide) rfl (fun ls hl => ?_)
  refine lv_aload_n hx hb dL_law_689 rfl (lv_at hl 4 rfl) ?_
  refine lv_aload_n hx hb dL_law_690 rfl (lv_at hl 2 rfl) ?_
  refine lv_iload hx hb dL_law_691 (lv_at hl 1 rfl) ?_
  refine lv_iconst (v := 1) hx hb dL_law_693 (by decide) ?_
  refine lv_iadd hx hb dL_law_694 ?_
  refine rsld F hH hX hbl hbA (by omega) (i + 1) (nI_1 i) (by omega) dL_law_695 ?_
  refine callVI (rest := []) F M2 gL_law_X3_pass rfl hdX3_pass ⟨by show fr3 + 1 ≤ 11; omega, by show 8 + (5 + 11) + lo3 ≤ 388; omega⟩ (sw2 u ++ outC G o g2) [] hH (by simp) ⟨0, 3, _, _, rfl, rfl, rfl⟩ rfl hl.1 (Nat.le_of_ble_eq_true rfl) dL_law_696 ⟨by show cells + c1 + 0 ≤ 601024; omega, by show slots + s1 + 0 ≤ 7293034; omega⟩ rfl (fun u9 H locs hH => ?_)
  have hH : HH G A s (sw2 u ++ outC G o g2 ++ mW G mq f2 a2) H locs := by rw [List.append_nil] at hH; exact hH
  refine lv_istore (lv' := [(6, .int b9), (5, .int kk), (4, .int (nI i)), (0, .ref b), (1, .ref (q 0)), (2, .ref (mq 0)), (3, .ref o)]) hx hb dL_law_699 hl (by decide) rfl (fun ls hl => ?_)
  refine lv_aload_n hx hb dL_law_701 rfl (lv_at hl 5 rfl) ?_
  refine callVI (rest := []) F (c_X3_thrown l G mq f2 a2) gL_law_X3_thrown rfl hdX3_thrown ⟨Nat.le_of_ble_eq_true rfl, Nat.le_of_ble_eq_true rfl⟩ (sw2 u ++ outC G o g2) [] hH (by simp) ⟨0, 3, _, _, rfl, rfl, rfl⟩ rfl hl.1 (Nat.le_of_ble_eq_true rfl) dL_law_702 ⟨by show cells + c1 + 0 + 0 ≤ 601024; omega, by show slots + s1 + 0 + 0 ≤ 7293034; omega⟩ rfl (fun u9 H locs hH => ?_)
  have hH : HH G A s (sw2 u ++ outC G o g2 ++ mW G mq f2 a2) H locs := by rw [List.append_nil] at hH; exact hH
  refine lv_iload hx hb dL_law_705 (lv_at hl 1 rfl) ?_
  refine lv_icmp_eq (tgt := 712) hx hb dL_law_707 (by decide) (fun c9 => ?_) (fun c9 => absurd (h24) c9)
  refine lv_iload hx hb dL_law_712 (lv_at hl 1 rfl) ?_
  refine lv_if_ne (tgt := 729) hx hb dL_law_714 (by decide) (fun ck => ?_) (fun ck => ?_)
  · refine lv_goto (tgt := 1226) hx hb dL_law_729 (by decide) ?_
    refine W.widen (k := cells + 8) (n := slots + 1300) (by show cells + c1 + 0 + 0 ≤ cells + 8; omega) (by show slots + s1 + 0 + 0 ≤ slots + 1300; omega) ?_
    exact hk g2 _ _ _ (hSR u) _ _ _ hH (lv_sub hl [2, 3, 4, 5, 6] rfl)
  · refine lv_aload_n hx hb dL_law_717 rfl (lv_at hl 6 rfl) ?_
    refine lv_iconst (v := 0) hx hb dL_law_718 (by decide) ?_
    refine rlald F hH ((sw2 u).length + 0) (n := 1) (f := g2) (mid_at (a := sw2 u) (w := outC G o g2) (b := mW G mq f2 a2) (k := 0) rfl) 0 rfl (by decide) (by decide) dL_law_719 ?_
    refine lv_iload hx hb dL_law_720 (lv_at hl 0 rfl) ?_
    refine lv_i2l hx hb dL_law_722 rfl ?_
    refine W.lcmp hx hb dL_law_723 ?_
    refine lv_if_eq (tgt := 729) hx hb dL_law_724 (by decide) (fun c9 => ?_) (fun c9 => absurd (by rw [hk0 ck]; exact lg_self _) c9)
    refine lv_goto (tgt := 1226) hx hb dL_law_729 (by decide) ?_
    refine W.widen (k := cells + 8) (n := slots + 1300) (by show cells + c1 + 0 + 0 ≤ cells + 8; omega) (by show slots + s1 + 0 + 0 ≤ slots + 1300; omega) ?_
    exact hk g2 _ _ _ (hSR u) _ _ _ hH (lv_sub hl [2, 3, 4, 5, 6] rfl)

set_option maxHeartbeats 4000000 in
set_option maxRecDepth 100000 in
theorem law_c9 {p : Program} {l : Launch} {e : Env} {s : State} {m : MethodId} {below : List Frame} {meth : Method} {c : Code} {b L : Nat} {xs : Nat → Int32} {A : Nat → Prop} (hst : l.stackTraces = false) (G : Gx) (F : Fx G p s m #[.ref b] meth c cL_law 7 wsL_law RL A) (hbA : ¬ A b) (hL : L ≤ 2560) (hX : va_X b L xs s s.heap) (hbl : b < s.heap.size) (q mq : Nat → Nat) (o : Nat) (g : Nat → Int64) (w : va_W) (f : Nat → Int32) (a : Nat → Nat → Int32) (hS : SR G q w f a) (i : Nat) (hi5 : i + 5 ≤ L) (cells slots : Nat) (hc9 : cells + 8 ≤ 601024) (hs9 : slots + 1300 ≤ 7293034) (Q : State → Prop)
    (hk : ∀ (g2 : Nat → Int64) (w2 : va_W) (f2 : Nat → Int32) (a2 : Nat → Nat → Int32), SR G q w2 f2 a2 → ∀ (H : Heap) (locs : List Loc) (ls : Array Slot), HH G A s (w2 ++ outC G o g2 ++ mW G mq f2 a2) H locs → lv_has ls 7 [(4, .int (nI i)), (0, .ref b), (1, .ref (q 0)), (2, .ref (mq 0)), (3, .ref o)] → W p l e room_1 s m #[.ref b] below meth c H locs (cells + 8) (slots + 1300) Q (F0 m 1226 ls []))
    (H : Heap) (locs : List Loc) (ls : Array Slot) (hH : HH G A s (w ++ outC G o g ++ mW G mq f a) H locs) (hl : lv_has ls 7 [(4, .int (nI i)), (0, .ref b), (1, .ref (q 0)), (2, .ref (mq 0)), (3, .ref o)]) : W p l e room_1 s m #[.ref b] below meth c H locs cells slots Q (F0 m 732 ls []) := by
  have hx := F.1.1
  have hb := F.1.2.1
  refine lv_aload_n hx hb dL_law_732 rfl (lv_at hl 2 rfl) ?_
  obtain ⟨n, nc, t, fl, fd, k, wd, wf, wa, cd, cf, hw9, R9⟩ := hS
  subst hw9
  refine callVI (rest := []) F (c_X2_week l G q n nc t fl fd k wd wf wa cd cf) gL_law_X2_week rfl hdX2_week ⟨Nat.le_of_ble_eq_true rfl, Nat.le_of_ble_eq_true rfl⟩ [] (outC G o g ++ mW G mq f a) hH (by simp) ⟨0, 2, _, _, rfl, rfl, rfl⟩ rfl hl.1 (Nat.le_of_ble_eq_true rfl) dL_law_733 ⟨by show cells + 0 ≤ 601024; omega, by show slots + 0 ≤ 7293034; omega⟩ rfl (fun u H locs hH => ?_)
  have hH : HH G A s (sW G q n nc t fl fd k wd wf wa cd cf ++ outC G o g ++ mW G mq f a) H locs := by rw [List.nil_append, ← List.append_assoc] at hH; exact hH
  refine lv_aload_n hx hb dL_law_736 rfl (lv_at hl 3 rfl) ?_
  refine callVI (rest := [.int (nI t)]) F (c_X3_week l G mq f a) gL_law_X3_week rfl hdX3_week ⟨Nat.le_of_ble_eq_true rfl, Nat.le_of_ble_eq_true rfl⟩ (sW G q n nc t fl fd k wd wf wa cd cf ++ outC G o g) [] hH (by simp) ⟨0, 3, _, _, rfl, rfl, rfl⟩ rfl hl.1 (Nat.le_of_ble_eq_true rfl) dL_law_737 ⟨by show cells + 0 + 0 ≤ 601024; omega, by show slots + 0 + 0 ≤ 7293034; omega⟩ rfl (fun u H locs hH => ?_)
  have hH : HH G A s (sW G q n nc t fl fd k wd wf wa cd cf ++ outC G o g ++ mW G mq (va_up f 24 0) a) H locs := by rw [List.append_nil] at hH; exact hH
  refine lv_icmp_eq (tgt := 1226) hx hb dL_law_740 (by decide) (fun c9 => ?_) (fun c9 => absurd (R9.1.2.2.2.2.2.1.symm) c9)
  refine W.widen (k := cells + 8) (n := slots + 1300) (by show cells + 0 + 0 ≤ cells + 8; omega) (by show slots + 0 + 0 ≤ slots + 1300; omega) ?_
  exact hk g _ _ _ ⟨n, nc, t, fl, fd, k, wd, wf, wa, cd, cf, rfl, R9.up24 0⟩ _ _ _ hH (lv_sub hl [0, 1, 2, 3, 4] rfl)

set_option maxHeartbeats 4000000 in
set_option maxRecDepth 100000 in
theorem law_c10 {p : Program} {l : Launch} {e : Env} {s : State} {m : MethodId} {below : List Frame} {meth : Method} {c : Code} {b L : Nat} {xs : Nat → Int32} {A : Nat → Prop} (hst : l.stackTraces = false) (G : Gx) (F : Fx G p s m #[.ref b] meth c cL_law 7 wsL_law RL A) (hbA : ¬ A b) (hL : L ≤ 2560) (hX : va_X b L xs s s.heap) (hbl : b < s.heap.size) (q mq : Nat → Nat) (o : Nat) (g : Nat → Int64) (w : va_W) (f : Nat → Int32) (a : Nat → Nat → Int32) (hS : SR G q w f a) (i : Nat) (hi5 : i + 5 ≤ L) (cells slots : Nat) (hc9 : cells + 8 ≤ 601024) (hs9 : slots + 1300 ≤ 7293034) (Q : State → Prop)
    (hk : ∀ (g2 : Nat → Int64) (w2 : va_W) (f2 : Nat → Int32) (a2 : Nat → Nat → Int32), SR G q w2 f2 a2 → ∀ (H : Heap) (locs : List Loc) (ls : Array Slot), HH G A s (w2 ++ outC G o g2 ++ mW G mq f2 a2) H locs → lv_has ls 7 [(4, .int (nI i)), (0, .ref b), (1, .ref (q 0)), (2, .ref (mq 0)), (3, .ref o)] → W p l e room_1 s m #[.ref b] below meth c H locs (cells + 8) (slots + 1300) Q (F0 m 1226 ls []))
    (H : Heap) (locs : List Loc) (ls : Array Slot) (hH : HH G A s (w ++ outC G o g ++ mW G mq f a) H locs) (hl : lv_has ls 7 [(4, .int (nI i)), (0, .ref b), (1, .ref (q 0)), (2, .ref (mq 0)), (3, .ref o)]) : W p l e room_1 s m #[.ref b] below meth c H locs cells slots Q (F0 m 745 ls []) := by
  have hx := F.1.1
  have hb := F.1.2.1
  refine lv_aload_n hx hb dL_law_745 rfl (lv_at hl 2 rfl) ?_
  refine lv_aload_n hx hb dL_law_746 rfl (lv_at hl 1 rfl) ?_
  refine lv_iload hx hb dL_law_747 (lv_at hl 0 rfl) ?_
  refine lv_iconst (v := 1) hx hb dL_law_749 (by decide) ?_
  refine lv_iadd hx hb dL_law_750 ?_
  refine rsld F hH hX hbl hbA (by omega) (i + 1) (nI_1 i) (by omega) dL_law_751 ?_
  refine lv_aload_n hx hb dL_law_752 rfl (lv_at hl 1 rfl) ?_
  refine lv_iload hx hb dL_law_753 (lv_at hl 0 rfl) ?_
  refine lv_iconst (v := 2) hx hb dL_law_755 (by decide) ?_
  refine lv_iadd hx hb dL_law_756 ?_
  refine rsld F hH hX hbl hbA (by omega) (i + 2) (nI_add i 2) (by omega) dL_law_757 ?_
  refine lv_aload_n hx hb dL_law_758 rfl (lv_at hl 4 rfl) ?_
  obtain ⟨c1, s1, fr3, lo3, kk, b9, g2, sw2, f2, a2, hc1, hs1, hf3, hl3, M1, M2, h24, hk0, hSR⟩ := sim_paid l hst G q mq o g w f a hS (xs (i + 1)) (xs (i + 2))
  refine callLI (rest := []) F M1 gL_law_L_paid rfl hdL_paid.2 ⟨Nat.le_of_ble_eq_true rfl, Nat.le_of_ble_eq_true rfl⟩ [] (mW G mq f a) hH (by simp) rfl hl.1 (Nat.le_of_ble_eq_true rfl) dL_law_759 ⟨by show cells + c1 ≤ 601024; omega, by show slots + s1 ≤ 7293034; omega⟩ rfl (fun u H locs hH => ?_)
  have hH : HH G A s (sw2 u ++ outC G o g2 ++ mW G mq f a) H locs := by rw [List.nil_append] at hH; exact hH
  refine lv_istore (lv' := [(5, .int kk), (4, .int (nI i)), (0, .ref b), (1, .ref (q 0)), (2, .ref (mq 0)), (3, .ref o)]) hx hb dL_law_762 hl (by decide) rfl (fun ls hl => ?_)
  refine lv_aload_n hx hb dL_law_764 rfl (lv_at hl 4 rfl) ?_
  refine lv_aload_n hx hb dL_law_765 rfl (lv_at hl 2 rfl) ?_
  refine lv_iload hx hb dL_law_766 (lv_at hl 1 rfl) ?_
  refine lv_iconst (v := 1) hx hb dL_law_768 (by decide) ?_
  refine lv_iadd hx hb dL_law_769 ?_
  refine rsld F hH hX hbl hbA (by omega) (i + 1) (nI_1 i) (by omega) dL_law_770 ?_
  refine lv_aload_n hx hb dL_law_771 rfl (lv_at hl 2 rfl) ?_
  refine lv_iload hx hb dL_law_772 (lv_at hl 1 rfl) ?_
  refine lv_iconst (v := 2) hx hb dL_law_774 (by decide) ?_
  refine lv_iadd hx hb dL_law_775 ?_
  refine rsld F hH hX hbl hbA (by omega) (i + 2) (nI_add i 2) (by omega) dL_law_776 ?_
  refine callVI (rest := []) F M2 gL_law_X3_paid rfl hdX3_paid ⟨by show fr3 + 1 ≤ 11; omega, by show 8 + (3 + 11) + lo3 ≤ 388; omega⟩ (sw2 u ++ outC G o g2) [] hH (by simp) ⟨0, 3, _, _, rfl, rfl, rfl⟩ rfl hl.1 (Nat.le_of_ble_eq_true rfl) dL_law_777 ⟨by show cells + c1 + 0 ≤ 601024; omega, by show slots + s1 + 0 ≤ 7293034; omega⟩ rfl (fun u9 H locs hH => ?_)
  have hH : HH G A s (sw2 u ++ outC G o g2 ++ mW G mq f2 a2) H locs := by rw [List.append_nil] at hH; exact hH
  refine lv_istore (lv' := [(6, .int b9), (5, .int kk), (4, .int (nI i)), (0, .ref b), (1, .ref (q 0)), (2, .ref (mq 0)), (3, .ref o)]) hx hb dL_law_780 hl (by decide) rfl (fun ls hl => ?_)
  refine lv_aload_n hx hb dL_law_782 rfl (lv_at hl 5 rfl) ?_
  refine callVI (rest := []) F (c_X3_thrown l G mq f2 a2) gL_law_X3_thrown rfl hdX3_thrown ⟨Nat.le_of_ble_eq_true rfl, Nat.le_of_ble_eq_true rfl⟩ (sw2 u ++ outC G o g2) [] hH (by simp) ⟨0, 3, _, _, rfl, rfl, rfl⟩ rfl hl.1 (Nat.le_of_ble_eq_true rfl) dL_law_783 ⟨by show cells + c1 + 0 + 0 ≤ 601024; omega, by show slots + s1 + 0 + 0 ≤ 7293034; omega⟩ rfl (fun u9 H locs hH => ?_)
  have hH : HH G A s (sw2 u ++ outC G o g2 ++ mW G mq f2 a2) H locs := by rw [List.append_nil] at hH; exact hH
  refine lv_iload hx hb dL_law_786 (lv_at hl 1 rfl) ?_
  refine lv_icmp_eq (tgt := 793) hx hb dL_law_788 (by decide) (fun c9 => ?_) (fun c9 => absurd (h24) c9)
  refine lv_iload hx hb dL_law_793 (lv_at hl 1 rfl) ?_
  refine lv_if_ne (tgt := 810) hx hb dL_law_795 (by decide) (fun ck => ?_) (fun ck => ?_)
  · refine lv_goto (tgt := 1226) hx hb dL_law_810 (by decide) ?_
    refine W.widen (k := cells + 8) (n := slots + 1300) (by show cells + c1 + 0 + 0 ≤ cells + 8; omega) (by show slots + s1 + 0 + 0 ≤ slots + 1300; omega) ?_
    exact hk g2 _ _ _ (hSR u) _ _ _ hH (lv_sub hl [2, 3, 4, 5, 6] rfl)
  · refine lv_aload_n hx hb dL_law_798 rfl (lv_at hl 6 rfl) ?_
    refine lv_iconst (v := 0) hx hb dL_law_799 (by decide) ?_
    refine rlald F hH ((sw2 u).length + 0) (n := 1) (f := g2) (mid_at (a := sw2 u) (w := outC G o g2) (b := mW G mq f2 a2) (k := 0) rfl) 0 rfl (by decide) (by decide) dL_law_800 ?_
    refine lv_iload hx hb dL_law_801 (lv_at hl 0 rfl) ?_
    refine lv_i2l hx hb dL_law_803 rfl ?_
    refine W.lcmp hx hb dL_law_804 ?_
    refine lv_if_eq (tgt := 810) hx hb dL_law_805 (by decide) (fun c9 => ?_) (fun c9 => absurd (by rw [hk0 ck]; exact lg_self _) c9)
    refine lv_goto (tgt := 1226) hx hb dL_law_810 (by decide) ?_
    refine W.widen (k := cells + 8) (n := slots + 1300) (by show cells + c1 + 0 + 0 ≤ cells + 8; omega) (by show slots + s1 + 0 + 0 ≤ slots + 1300; omega) ?_
    exact hk g2 _ _ _ (hSR u) _ _ _ hH (lv_sub hl [2, 3, 4, 5, 6] rfl)

set_option maxHeartbeats 4000000 in
set_option maxRecDepth 100000 in
theorem law_c11 {p : Program} {l : Launch} {e : Env} {s : State} {m : MethodId} {below : List Frame} {meth : Method} {c : Code} {b L : Nat} {xs : Nat → Int32} {A : Nat → Prop} (hst : l.stackTraces = false) (G : Gx) (F : Fx G p s m #[.ref b] meth c cL_law 7 wsL_law RL A) (hbA : ¬ A b) (hL : L ≤ 2560) (hX : va_X b L xs s s.heap) (hbl : b < s.heap.size) (q mq : Nat → Nat) (o : Nat) (g : Nat → Int64) (w : va_W) (f : Nat → Int32) (a : Nat → Nat → Int32) (hS : SR G q w f a) (i : Nat) (hi5 : i + 5 ≤ L) (cells slots : Nat) (hc9 : cells + 8 ≤ 601024) (hs9 : slots + 1300 ≤ 7293034) (Q : State → Prop)
    (hk : ∀ (g2 : Nat → Int64) (w2 : va_W) (f2 : Nat → Int32) (a2 : Nat → Nat → Int32), SR G q w2 f2 a2 → ∀ (H : Heap) (locs : List Loc) (ls : Array Slot), HH G A s (w2 ++ outC G o g2 ++ mW G mq f2 a2) H locs → lv_has ls 7 [(4, .int (nI i)), (0, .ref b), (1, .ref (q 0)), (2, .ref (mq 0)), (3, .ref o)] → W p l e room_1 s m #[.ref b] below meth c H locs (cells + 8) (slots + 1300) Q (F0 m 1226 ls []))
    (H : Heap) (locs : List Loc) (ls : Array Slot) (hH : HH G A s (w ++ outC G o g ++ mW G mq f a) H locs) (hl : lv_has ls 7 [(4, .int (nI i)), (0, .ref b), (1, .ref (q 0)), (2, .ref (mq 0)), (3, .ref o)]) : W p l e room_1 s m #[.ref b] below meth c H locs cells slots Q (F0 m 813 ls []) := by
  have hx := F.1.1
  have hb := F.1.2.1
  refine lv_aload_n hx hb dL_law_813 rfl (lv_at hl 2 rfl) ?_
  refine lv_aload_n hx hb dL_law_814 rfl (lv_at hl 1 rfl) ?_
  refine lv_iload hx hb dL_law_815 (lv_at hl 0 rfl) ?_
  refine lv_iconst (v := 1) hx hb dL_law_817 (by decide) ?_
  refine lv_iadd hx hb dL_law_818 ?_
  refine rsld F hH hX hbl hbA (by omega) (i + 1) (nI_1 i) (by omega) dL_law_819 ?_
  refine lv_aload_n hx hb dL_law_820 rfl (lv_at hl 1 rfl) ?_
  refine lv_iload hx hb dL_law_821 (lv_at hl 0 rfl) ?_
  refine lv_iconst (v := 2) hx hb dL_law_823 (by decide) ?_
  refine lv_iadd hx hb dL_law_824 ?_
  refine rsld F hH hX hbl hbA (by omega) (i + 2) (nI_add i 2) (by omega) dL_law_825 ?_
  refine lv_aload_n hx hb dL_law_826 rfl (lv_at hl 4 rfl) ?_
  obtain ⟨c1, s1, fr3, lo3, kk, b9, g2, sw2, f2, a2, hc1, hs1, hf3, hl3, M1, M2, h24, hk0, hSR⟩ := sim_madeUp l hst G q mq o g w f a hS (xs (i + 1)) (xs (i + 2))
  refine callLI (rest := []) F M1 gL_law_L_madeUp rfl hdL_madeUp.2 ⟨Nat.le_of_ble_eq_true rfl, Nat.le_of_ble_eq_true rfl⟩ [] (mW G mq f a) hH (by simp) rfl hl.1 (Nat.le_of_ble_eq_true rfl) dL_law_827 ⟨by show cells + c1 ≤ 601024; omega, by show slots + s1 ≤ 7293034; omega⟩ rfl (fun u H locs hH => ?_)
  have hH : HH G A s (sw2 u ++ outC G o g2 ++ mW G mq f a) H locs := by rw [List.nil_append] at hH; exact hH
  refine lv_istore (lv' := [(5, .int kk), (4, .int (nI i)), (0, .ref b), (1, .ref (q 0)), (2, .ref (mq 0)), (3, .ref o)]) hx hb dL_law_830 hl (by decide) rfl (fun ls hl => ?_)
  refine lv_aload_n hx hb dL_law_832 rfl (lv_at hl 4 rfl) ?_
  refine lv_aload_n hx hb dL_law_833 rfl (lv_at hl 2 rfl) ?_
  refine lv_iload hx hb dL_law_834 (lv_at hl 1 rfl) ?_
  refine lv_iconst (v := 1) hx hb dL_law_836 (by decide) ?_
  refine lv_iadd hx hb dL_law_837 ?_
  refine rsld F hH hX hbl hbA (by omega) (i + 1) (nI_1 i) (by omega) dL_law_838 ?_
  refine lv_aload_n hx hb dL_law_839 rfl (lv_at hl 2 rfl) ?_
  refine lv_iload hx hb dL_law_840 (lv_at hl 1 rfl) ?_
  refine lv_iconst (v := 2) hx hb dL_law_842 (by decide) ?_
  refine lv_iadd hx hb dL_law_843 ?_
  refine rsld F hH hX hbl hbA (by omega) (i + 2) (nI_add i 2) (by omega) dL_law_844 ?_
  refine callVI (rest := []) F M2 gL_law_X3_madeUp rfl hdX3_madeUp ⟨by show fr3 + 1 ≤ 11; omega, by show 8 + (3 + 11) + lo3 ≤ 388; omega⟩ (sw2 u ++ outC G o g2) [] hH (by simp) ⟨0, 3, _, _, rfl, rfl, rfl⟩ rfl hl.1 (Nat.le_of_ble_eq_true rfl) dL_law_845 ⟨by show cells + c1 + 0 ≤ 601024; omega, by show slots + s1 + 0 ≤ 7293034; omega⟩ rfl (fun u9 H locs hH => ?_)
  have hH : HH G A s (sw2 u ++ outC G o g2 ++ mW G mq f2 a2) H locs := by rw [List.append_nil] at hH; exact hH
  refine lv_istore (lv' := [(6, .int b9), (5, .int kk), (4, .int (nI i)), (0, .ref b), (1, .ref (q 0)), (2, .ref (mq 0)), (3, .ref o)]) hx hb dL_law_848 hl (by decide) rfl (fun ls hl => ?_)
  refine lv_aload_n hx hb dL_law_850 rfl (lv_at hl 5 rfl) ?_
  refine callVI (rest := []) F (c_X3_thrown l G mq f2 a2) gL_law_X3_thrown rfl hdX3_thrown ⟨Nat.le_of_ble_eq_true rfl, Nat.le_of_ble_eq_true rfl⟩ (sw2 u ++ outC G o g2) [] hH (by simp) ⟨0, 3, _, _, rfl, rfl, rfl⟩ rfl hl.1 (Nat.le_of_ble_eq_true rfl) dL_law_851 ⟨by show cells + c1 + 0 + 0 ≤ 601024; omega, by show slots + s1 + 0 + 0 ≤ 7293034; omega⟩ rfl (fun u9 H locs hH => ?_)
  have hH : HH G A s (sw2 u ++ outC G o g2 ++ mW G mq f2 a2) H locs := by rw [List.append_nil] at hH; exact hH
  refine lv_iload hx hb dL_law_854 (lv_at hl 1 rfl) ?_
  refine lv_icmp_eq (tgt := 861) hx hb dL_law_856 (by decide) (fun c9 => ?_) (fun c9 => absurd (h24) c9)
  refine lv_iload hx hb dL_law_861 (lv_at hl 1 rfl) ?_
  refine lv_if_ne (tgt := 878) hx hb dL_law_863 (by decide) (fun ck => ?_) (fun ck => ?_)
  · refine lv_goto (tgt := 1226) hx hb dL_law_878 (by decide) ?_
    refine W.widen (k := cells + 8) (n := slots + 1300) (by show cells + c1 + 0 + 0 ≤ cells + 8; omega) (by show slots + s1 + 0 + 0 ≤ slots + 1300; omega) ?_
    exact hk g2 _ _ _ (hSR u) _ _ _ hH (lv_sub hl [2, 3, 4, 5, 6] rfl)
  · refine lv_aload_n hx hb dL_law_866 rfl (lv_at hl 6 rfl) ?_
    refine lv_iconst (v := 0) hx hb dL_law_867 (by decide) ?_
    refine rlald F hH ((sw2 u).length + 0) (n := 1) (f := g2) (mid_at (a := sw2 u) (w := outC G o g2) (b := mW G mq f2 a2) (k := 0) rfl) 0 rfl (by decide) (by decide) dL_law_868 ?_
    refine lv_iload hx hb dL_law_869 (lv_at hl 0 rfl) ?_
    refine lv_i2l hx hb dL_law_871 rfl ?_
    refine W.lcmp hx hb dL_law_872 ?_
    refine lv_if_eq (tgt := 878) hx hb dL_law_873 (by decide) (fun c9 => ?_) (fun c9 => absurd (by rw [hk0 ck]; exact lg_self _) c9)
    refine lv_goto (tgt := 1226) hx hb dL_law_878 (by decide) ?_
    refine W.widen (k := cells + 8) (n := slots + 1300) (by show cells + c1 + 0 + 0 ≤ cells + 8; omega) (by show slots + s1 + 0 + 0 ≤ slots + 1300; omega) ?_
    exact hk g2 _ _ _ (hSR u) _ _ _ hH (lv_sub hl [2, 3, 4, 5, 6] rfl)

set_option maxHeartbeats 4000000 in
set_option maxRecDepth 100000 in
theorem law_c12 {p : Program} {l : Launch} {e : Env} {s : State} {m : MethodId} {below : List Frame} {meth : Method} {c : Code} {b L : Nat} {xs : Nat → Int32} {A : Nat → Prop} (hst : l.stackTraces = false) (G : Gx) (F : Fx G p s m #[.ref b] meth c cL_law 7 wsL_law RL A) (hbA : ¬ A b) (hL : L ≤ 2560) (hX : va_X b L xs s s.heap) (hbl : b < s.heap.size) (q mq : Nat → Nat) (o : Nat) (g : Nat → Int64) (w : va_W) (f : Nat → Int32) (a : Nat → Nat → Int32) (hS : SR G q w f a) (i : Nat) (hi5 : i + 5 ≤ L) (cells slots : Nat) (hc9 : cells + 8 ≤ 601024) (hs9 : slots + 1300 ≤ 7293034) (Q : State → Prop)
    (hk : ∀ (g2 : Nat → Int64) (w2 : va_W) (f2 : Nat → Int32) (a2 : Nat → Nat → Int32), SR G q w2 f2 a2 → ∀ (H : Heap) (locs : List Loc) (ls : Array Slot), HH G A s (w2 ++ outC G o g2 ++ mW G mq f2 a2) H locs → lv_has ls 7 [(4, .int (nI i)), (0, .ref b), (1, .ref (q 0)), (2, .ref (mq 0)), (3, .ref o)] → W p l e room_1 s m #[.ref b] below meth c H locs (cells + 8) (slots + 1300) Q (F0 m 1226 ls []))
    (H : Heap) (locs : List Loc) (ls : Array Slot) (hH : HH G A s (w ++ outC G o g ++ mW G mq f a) H locs) (hl : lv_has ls 7 [(4, .int (nI i)), (0, .ref b), (1, .ref (q 0)), (2, .ref (mq 0)), (3, .ref o)]) : W p l e room_1 s m #[.ref b] below meth c H locs cells slots Q (F0 m 881 ls []) := by
  have hx := F.1.1
  have hb := F.1.2.1
  refine lv_aload_n hx hb dL_law_881 rfl (lv_at hl 2 rfl) ?_
  refine lv_aload_n hx hb dL_law_882 rfl (lv_at hl 1 rfl) ?_
  refine lv_iload hx hb dL_law_883 (lv_at hl 0 rfl) ?_
  refine lv_iconst (v := 1) hx hb dL_law_885 (by decide) ?_
  refine lv_iadd hx hb dL_law_886 ?_
  refine rsld F hH hX hbl hbA (by omega) (i + 1) (nI_1 i) (by omega) dL_law_887 ?_
  refine lv_aload_n hx hb dL_law_888 rfl (lv_at hl 4 rfl) ?_
  obtain ⟨c1, s1, fr3, lo3, kk, b9, g2, sw2, f2, a2, hc1, hs1, hf3, hl3, M1, M2, h24, hk0, hSR⟩ := sim_cutWeeks l hst G q mq o g w f a hS (xs (i + 1))
  refine callLI (rest := []) F M1 gL_law_L_cutWeeks rfl hdL_cutWeeks.2 ⟨Nat.le_of_ble_eq_true rfl, Nat.le_of_ble_eq_true rfl⟩ [] (mW G mq f a) hH (by simp) rfl hl.1 (Nat.le_of_ble_eq_true rfl) dL_law_889 ⟨by show cells + c1 ≤ 601024; omega, by show slots + s1 ≤ 7293034; omega⟩ rfl (fun u H locs hH => ?_)
  have hH : HH G A s (sw2 u ++ outC G o g2 ++ mW G mq f a) H locs := by rw [List.nil_append] at hH; exact hH
  refine lv_istore (lv' := [(5, .int kk), (4, .int (nI i)), (0, .ref b), (1, .ref (q 0)), (2, .ref (mq 0)), (3, .ref o)]) hx hb dL_law_892 hl (by decide) rfl (fun ls hl => ?_)
  refine lv_aload_n hx hb dL_law_894 rfl (lv_at hl 4 rfl) ?_
  refine lv_aload_n hx hb dL_law_895 rfl (lv_at hl 2 rfl) ?_
  refine lv_iload hx hb dL_law_896 (lv_at hl 1 rfl) ?_
  refine lv_iconst (v := 1) hx hb dL_law_898 (by decide) ?_
  refine lv_iadd hx hb dL_law_899 ?_
  refine rsld F hH hX hbl hbA (by omega) (i + 1) (nI_1 i) (by omega) dL_law_900 ?_
  refine callVI (rest := []) F M2 gL_law_X3_cutWeeks rfl hdX3_cutWeeks ⟨by show fr3 + 1 ≤ 11; omega, by show 8 + (2 + 11) + lo3 ≤ 388; omega⟩ (sw2 u ++ outC G o g2) [] hH (by simp) ⟨0, 3, _, _, rfl, rfl, rfl⟩ rfl hl.1 (Nat.le_of_ble_eq_true rfl) dL_law_901 ⟨by show cells + c1 + 0 ≤ 601024; omega, by show slots + s1 + 0 ≤ 7293034; omega⟩ rfl (fun u9 H locs hH => ?_)
  have hH : HH G A s (sw2 u ++ outC G o g2 ++ mW G mq f2 a2) H locs := by rw [List.append_nil] at hH; exact hH
  refine lv_istore (lv' := [(6, .int b9), (5, .int kk), (4, .int (nI i)), (0, .ref b), (1, .ref (q 0)), (2, .ref (mq 0)), (3, .ref o)]) hx hb dL_law_904 hl (by decide) rfl (fun ls hl => ?_)
  refine lv_aload_n hx hb dL_law_906 rfl (lv_at hl 5 rfl) ?_
  refine callVI (rest := []) F (c_X3_thrown l G mq f2 a2) gL_law_X3_thrown rfl hdX3_thrown ⟨Nat.le_of_ble_eq_true rfl, Nat.le_of_ble_eq_true rfl⟩ (sw2 u ++ outC G o g2) [] hH (by simp) ⟨0, 3, _, _, rfl, rfl, rfl⟩ rfl hl.1 (Nat.le_of_ble_eq_true rfl) dL_law_907 ⟨by show cells + c1 + 0 + 0 ≤ 601024; omega, by show slots + s1 + 0 + 0 ≤ 7293034; omega⟩ rfl (fun u9 H locs hH => ?_)
  have hH : HH G A s (sw2 u ++ outC G o g2 ++ mW G mq f2 a2) H locs := by rw [List.append_nil] at hH; exact hH
  refine lv_iload hx hb dL_law_910 (lv_at hl 1 rfl) ?_
  refine lv_icmp_eq (tgt := 917) hx hb dL_law_912 (by decide) (fun c9 => ?_) (fun c9 => absurd (h24) c9)
  refine lv_iload hx hb dL_law_917 (lv_at hl 1 rfl) ?_
  refine lv_if_ne (tgt := 934) hx hb dL_law_919 (by decide) (fun ck => ?_) (fun ck => ?_)
  · refine lv_goto (tgt := 1226) hx hb dL_law_934 (by decide) ?_
    refine W.widen (k := cells + 8) (n := slots + 1300) (by show cells + c1 + 0 + 0 ≤ cells + 8; omega) (by show slots + s1 + 0 + 0 ≤ slots + 1300; omega) ?_
    exact hk g2 _ _ _ (hSR u) _ _ _ hH (lv_sub hl [2, 3, 4, 5, 6] rfl)
  · refine lv_aload_n hx hb dL_law_922 rfl (lv_at hl 6 rfl) ?_
    refine lv_iconst (v := 0) hx hb dL_law_923 (by decide) ?_
    refine rlald F hH ((sw2 u).length + 0) (n := 1) (f := g2) (mid_at (a := sw2 u) (w := outC G o g2) (b := mW G mq f2 a2) (k := 0) rfl) 0 rfl (by decide) (by decide) dL_law_924 ?_
    refine lv_iload hx hb dL_law_925 (lv_at hl 0 rfl) ?_
    refine lv_i2l hx hb dL_law_927 rfl ?_
    refine W.lcmp hx hb dL_law_928 ?_
    refine lv_if_eq (tgt := 934) hx hb dL_law_929 (by decide) (fun c9 => ?_) (fun c9 => absurd (by rw [hk0 ck]; exact lg_self _) c9)
    refine lv_goto (tgt := 1226) hx hb dL_law_934 (by decide) ?_
    refine W.widen (k := cells + 8) (n := slots + 1300) (by show cells + c1 + 0 + 0 ≤ cells + 8; omega) (by show slots + s1 + 0 + 0 ≤ slots + 1300; omega) ?_
    exact hk g2 _ _ _ (hSR u) _ _ _ hH (lv_sub hl [2, 3, 4, 5, 6] rfl)

set_option maxHeartbeats 4000000 in
set_option maxRecDepth 100000 in
theorem law_c13 {p : Program} {l : Launch} {e : Env} {s : State} {m : MethodId} {below : List Frame} {meth : Method} {c : Code} {b L : Nat} {xs : Nat → Int32} {A : Nat → Prop} (hst : l.stackTraces = false) (G : Gx) (F : Fx G p s m #[.ref b] meth c cL_law 7 wsL_law RL A) (hbA : ¬ A b) (hL : L ≤ 2560) (hX : va_X b L xs s s.heap) (hbl : b < s.heap.size) (q mq : Nat → Nat) (o : Nat) (g : Nat → Int64) (w : va_W) (f : Nat → Int32) (a : Nat → Nat → Int32) (hS : SR G q w f a) (i : Nat) (hi5 : i + 5 ≤ L) (cells slots : Nat) (hc9 : cells + 8 ≤ 601024) (hs9 : slots + 1300 ≤ 7293034) (Q : State → Prop)
    (hk : ∀ (g2 : Nat → Int64) (w2 : va_W) (f2 : Nat → Int32) (a2 : Nat → Nat → Int32), SR G q w2 f2 a2 → ∀ (H : Heap) (locs : List Loc) (ls : Array Slot), HH G A s (w2 ++ outC G o g2 ++ mW G mq f2 a2) H locs → lv_has ls 7 [(4, .int (nI i)), (0, .ref b), (1, .ref (q 0)), (2, .ref (mq 0)), (3, .ref o)] → W p l e room_1 s m #[.ref b] below meth c H locs (cells + 8) (slots + 1300) Q (F0 m 1226 ls []))
    (H : Heap) (locs : List Loc) (ls : Array Slot) (hH : HH G A s (w ++ outC G o g ++ mW G mq f a) H locs) (hl : lv_has ls 7 [(4, .int (nI i)), (0, .ref b), (1, .ref (q 0)), (2, .ref (mq 0)), (3, .ref o)]) : W p l e room_1 s m #[.ref b] below meth c H locs cells slots Q (F0 m 937 ls []) := by
  have hx := F.1.1
  have hb := F.1.2.1
  refine lv_aload_n hx hb dL_law_937 rfl (lv_at hl 2 rfl) ?_
  refine lv_aload_n hx hb dL_law_938 rfl (lv_at hl 1 rfl) ?_
  refine lv_iload hx hb dL_law_939 (lv_at hl 0 rfl) ?_
  refine lv_iconst (v := 1) hx hb dL_law_941 (by decide) ?_
  refine lv_iadd hx hb dL_law_942 ?_
  refine rsld F hH hX hbl hbA (by omega) (i + 1) (nI_1 i) (by omega) dL_law_943 ?_
  refine lv_aload_n hx hb dL_law_944 rfl (lv_at hl 1 rfl) ?_
  refine lv_iload hx hb dL_law_945 (lv_at hl 0 rfl) ?_
  refine lv_iconst (v := 2) hx hb dL_law_947 (by decide) ?_
  refine lv_iadd hx hb dL_law_948 ?_
  refine rsld F hH hX hbl hbA (by omega) (i + 2) (nI_add i 2) (by omega) dL_law_949 ?_
  refine lv_aload_n hx hb dL_law_950 rfl (lv_at hl 1 rfl) ?_
  refine lv_iload hx hb dL_law_951 (lv_at hl 0 rfl) ?_
  refine lv_iconst (v := 3) hx hb dL_law_953 (by decide) ?_
  refine lv_iadd hx hb dL_law_954 ?_
  refine rsld F hH hX hbl hbA (by omega) (i + 3) (nI_add i 3) (by omega) dL_law_955 ?_
  obtain ⟨c1, s1, fr3, lo3, kk, sw2, f2, a2, hc1, hs1, hf3, hl3, M1, M2, h24, hSR⟩ := sim_door l hst G q mq w f a hS (xs (i + 1)) (xs (i + 2)) (xs (i + 3))
  refine callLI (rest := []) F M1 gL_law_L_door rfl hdL_door.2 ⟨Nat.le_of_ble_eq_true rfl, Nat.le_of_ble_eq_true rfl⟩ [] (outC G o g ++ mW G mq f a) hH (by simp) rfl hl.1 (Nat.le_of_ble_eq_true rfl) dL_law_956 ⟨by show cells + c1 ≤ 601024; omega, by show slots + s1 ≤ 7293034; omega⟩ rfl (fun u H locs hH => ?_)
  have hH : HH G A s (sw2 u ++ outC G o g ++ mW G mq f a) H locs := by rw [List.nil_append, ← List.append_assoc] at hH; exact hH
  refine lv_istore (lv' := [(5, .int kk), (4, .int (nI i)), (0, .ref b), (1, .ref (q 0)), (2, .ref (mq 0)), (3, .ref o)]) hx hb dL_law_959 hl (by decide) rfl (fun ls hl => ?_)
  refine lv_aload_n hx hb dL_law_961 rfl (lv_at hl 4 rfl) ?_
  refine lv_aload_n hx hb dL_law_962 rfl (lv_at hl 2 rfl) ?_
  refine lv_iload hx hb dL_law_963 (lv_at hl 1 rfl) ?_
  refine lv_iconst (v := 1) hx hb dL_law_965 (by decide) ?_
  refine lv_iadd hx hb dL_law_966 ?_
  refine rsld F hH hX hbl hbA (by omega) (i + 1) (nI_1 i) (by omega) dL_law_967 ?_
  refine lv_aload_n hx hb dL_law_968 rfl (lv_at hl 2 rfl) ?_
  refine lv_iload hx hb dL_law_969 (lv_at hl 1 rfl) ?_
  refine lv_iconst (v := 2) hx hb dL_law_971 (by decide) ?_
  refine lv_iadd hx hb dL_law_972 ?_
  refine rsld F hH hX hbl hbA (by omega) (i + 2) (nI_add i 2) (by omega) dL_law_973 ?_
  refine lv_aload_n hx hb dL_law_974 rfl (lv_at hl 2 rfl) ?_
  refine lv_iload hx hb dL_law_975 (lv_at hl 1 rfl) ?_
  refine lv_iconst (v := 3) hx hb dL_law_977 (by decide) ?_
  refine lv_iadd hx hb dL_law_978 ?_
  refine rsld F hH hX hbl hbA (by omega) (i + 3) (nI_add i 3) (by omega) dL_law_979 ?_
  refine callVV (rest := []) F M2 gL_law_X3_door rfl hdX3_door ⟨by show fr3 + 1 ≤ 11; omega, by show 8 + (4 + 11) + lo3 ≤ 388; omega⟩ (sw2 u ++ outC G o g) [] hH (by simp) ⟨0, 3, _, _, rfl, rfl, rfl⟩ rfl hl.1 (Nat.le_of_ble_eq_true rfl) dL_law_980 ⟨by show cells + c1 + 0 ≤ 601024; omega, by show slots + s1 + 0 ≤ 7293034; omega⟩ rfl (fun u9 H locs hH => ?_)
  have hH : HH G A s (sw2 u ++ outC G o g ++ mW G mq f2 a2) H locs := by rw [List.append_nil] at hH; exact hH
  refine lv_aload_n hx hb dL_law_983 rfl (lv_at hl 4 rfl) ?_
  refine callVI (rest := []) F (c_X3_thrown l G mq f2 a2) gL_law_X3_thrown rfl hdX3_thrown ⟨Nat.le_of_ble_eq_true rfl, Nat.le_of_ble_eq_true rfl⟩ (sw2 u ++ outC G o g) [] hH (by simp) ⟨0, 3, _, _, rfl, rfl, rfl⟩ rfl hl.1 (Nat.le_of_ble_eq_true rfl) dL_law_984 ⟨by show cells + c1 + 0 + 0 ≤ 601024; omega, by show slots + s1 + 0 + 0 ≤ 7293034; omega⟩ rfl (fun u9 H locs hH => ?_)
  have hH : HH G A s (sw2 u ++ outC G o g ++ mW G mq f2 a2) H locs := by rw [List.append_nil] at hH; exact hH
  refine lv_iload hx hb dL_law_987 (lv_at hl 0 rfl) ?_
  refine lv_icmp_eq (tgt := 994) hx hb dL_law_989 (by decide) (fun c9 => ?_) (fun c9 => absurd (h24) c9)
  refine lv_goto (tgt := 1226) hx hb dL_law_994 (by decide) ?_
  refine W.widen (k := cells + 8) (n := slots + 1300) (by show cells + c1 + 0 + 0 ≤ cells + 8; omega) (by show slots + s1 + 0 + 0 ≤ slots + 1300; omega) ?_
  exact hk g _ _ _ (hSR u) _ _ _ hH (lv_sub hl [1, 2, 3, 4, 5] rfl)

set_option maxHeartbeats 4000000 in
set_option maxRecDepth 100000 in
theorem law_c14 {p : Program} {l : Launch} {e : Env} {s : State} {m : MethodId} {below : List Frame} {meth : Method} {c : Code} {b L : Nat} {xs : Nat → Int32} {A : Nat → Prop} (hst : l.stackTraces = false) (G : Gx) (F : Fx G p s m #[.ref b] meth c cL_law 7 wsL_law RL A) (hbA : ¬ A b) (hL : L ≤ 2560) (hX : va_X b L xs s s.heap) (hbl : b < s.heap.size) (q mq : Nat → Nat) (o : Nat) (g : Nat → Int64) (w : va_W) (f : Nat → Int32) (a : Nat → Nat → Int32) (hS : SR G q w f a) (i : Nat) (hi5 : i + 5 ≤ L) (cells slots : Nat) (hc9 : cells + 8 ≤ 601024) (hs9 : slots + 1300 ≤ 7293034) (Q : State → Prop)
    (hk : ∀ (g2 : Nat → Int64) (w2 : va_W) (f2 : Nat → Int32) (a2 : Nat → Nat → Int32), SR G q w2 f2 a2 → ∀ (H : Heap) (locs : List Loc) (ls : Array Slot), HH G A s (w2 ++ outC G o g2 ++ mW G mq f2 a2) H locs → lv_has ls 7 [(4, .int (nI i)), (0, .ref b), (1, .ref (q 0)), (2, .ref (mq 0)), (3, .ref o)] → W p l e room_1 s m #[.ref b] below meth c H locs (cells + 8) (slots + 1300) Q (F0 m 1226 ls []))
    (H : Heap) (locs : List Loc) (ls : Array Slot) (hH : HH G A s (w ++ outC G o g ++ mW G mq f a) H locs) (hl : lv_has ls 7 [(4, .int (nI i)), (0, .ref b), (1, .ref (q 0)), (2, .ref (mq 0)), (3, .ref o)]) : W p l e room_1 s m #[.ref b] below meth c H locs cells slots Q (F0 m 997 ls []) := by
  have hx := F.1.1
  have hb := F.1.2.1
  refine lv_aload_n hx hb dL_law_997 rfl (lv_at hl 2 rfl) ?_
  refine lv_aload_n hx hb dL_law_998 rfl (lv_at hl 1 rfl) ?_
  refine lv_iload hx hb dL_law_999 (lv_at hl 0 rfl) ?_
  refine lv_iconst (v := 1) hx hb dL_law_1001 (by decide) ?_
  refine lv_iadd hx hb dL_law_1002 ?_
  refine rsld F hH hX hbl hbA (by omega) (i + 1) (nI_1 i) (by omega) dL_law_1003 ?_
  refine lv_aload_n hx hb dL_law_1004 rfl (lv_at hl 1 rfl) ?_
  refine lv_iload hx hb dL_law_1005 (lv_at hl 0 rfl) ?_
  refine lv_iconst (v := 2) hx hb dL_law_1007 (by decide) ?_
  refine lv_iadd hx hb dL_law_1008 ?_
  refine rsld F hH hX hbl hbA (by omega) (i + 2) (nI_add i 2) (by omega) dL_law_1009 ?_
  obtain ⟨c1, s1, fr3, lo3, kk, sw2, f2, a2, hc1, hs1, hf3, hl3, M1, M2, h24, hSR⟩ := sim_mail l hst G q mq w f a hS (xs (i + 1)) (xs (i + 2))
  refine callLI (rest := []) F M1 gL_law_L_mail rfl hdL_mail.2 ⟨Nat.le_of_ble_eq_true rfl, Nat.le_of_ble_eq_true rfl⟩ [] (outC G o g ++ mW G mq f a) hH (by simp) rfl hl.1 (Nat.le_of_ble_eq_true rfl) dL_law_1010 ⟨by show cells + c1 ≤ 601024; omega, by show slots + s1 ≤ 7293034; omega⟩ rfl (fun u H locs hH => ?_)
  have hH : HH G A s (sw2 u ++ outC G o g ++ mW G mq f a) H locs := by rw [List.nil_append, ← List.append_assoc] at hH; exact hH
  refine lv_istore (lv' := [(5, .int kk), (4, .int (nI i)), (0, .ref b), (1, .ref (q 0)), (2, .ref (mq 0)), (3, .ref o)]) hx hb dL_law_1013 hl (by decide) rfl (fun ls hl => ?_)
  refine lv_aload_n hx hb dL_law_1015 rfl (lv_at hl 4 rfl) ?_
  refine lv_aload_n hx hb dL_law_1016 rfl (lv_at hl 2 rfl) ?_
  refine lv_iload hx hb dL_law_1017 (lv_at hl 1 rfl) ?_
  refine lv_iconst (v := 1) hx hb dL_law_1019 (by decide) ?_
  refine lv_iadd hx hb dL_law_1020 ?_
  refine rsld F hH hX hbl hbA (by omega) (i + 1) (nI_1 i) (by omega) dL_law_1021 ?_
  refine lv_aload_n hx hb dL_law_1022 rfl (lv_at hl 2 rfl) ?_
  refine lv_iload hx hb dL_law_1023 (lv_at hl 1 rfl) ?_
  refine lv_iconst (v := 2) hx hb dL_law_1025 (by decide) ?_
  refine lv_iadd hx hb dL_law_1026 ?_
  refine rsld F hH hX hbl hbA (by omega) (i + 2) (nI_add i 2) (by omega) dL_law_1027 ?_
  refine callVV (rest := []) F M2 gL_law_X3_mail rfl hdX3_mail ⟨by show fr3 + 1 ≤ 11; omega, by show 8 + (3 + 11) + lo3 ≤ 388; omega⟩ (sw2 u ++ outC G o g) [] hH (by simp) ⟨0, 3, _, _, rfl, rfl, rfl⟩ rfl hl.1 (Nat.le_of_ble_eq_true rfl) dL_law_1028 ⟨by show cells + c1 + 0 ≤ 601024; omega, by show slots + s1 + 0 ≤ 7293034; omega⟩ rfl (fun u9 H locs hH => ?_)
  have hH : HH G A s (sw2 u ++ outC G o g ++ mW G mq f2 a2) H locs := by rw [List.append_nil] at hH; exact hH
  refine lv_aload_n hx hb dL_law_1031 rfl (lv_at hl 4 rfl) ?_
  refine callVI (rest := []) F (c_X3_thrown l G mq f2 a2) gL_law_X3_thrown rfl hdX3_thrown ⟨Nat.le_of_ble_eq_true rfl, Nat.le_of_ble_eq_true rfl⟩ (sw2 u ++ outC G o g) [] hH (by simp) ⟨0, 3, _, _, rfl, rfl, rfl⟩ rfl hl.1 (Nat.le_of_ble_eq_true rfl) dL_law_1032 ⟨by show cells + c1 + 0 + 0 ≤ 601024; omega, by show slots + s1 + 0 + 0 ≤ 7293034; omega⟩ rfl (fun u9 H locs hH => ?_)
  have hH : HH G A s (sw2 u ++ outC G o g ++ mW G mq f2 a2) H locs := by rw [List.append_nil] at hH; exact hH
  refine lv_iload hx hb dL_law_1035 (lv_at hl 0 rfl) ?_
  refine lv_icmp_eq (tgt := 1042) hx hb dL_law_1037 (by decide) (fun c9 => ?_) (fun c9 => absurd (h24) c9)
  refine lv_goto (tgt := 1226) hx hb dL_law_1042 (by decide) ?_
  refine W.widen (k := cells + 8) (n := slots + 1300) (by show cells + c1 + 0 + 0 ≤ cells + 8; omega) (by show slots + s1 + 0 + 0 ≤ slots + 1300; omega) ?_
  exact hk g _ _ _ (hSR u) _ _ _ hH (lv_sub hl [1, 2, 3, 4, 5] rfl)

set_option maxHeartbeats 4000000 in
set_option maxRecDepth 100000 in
theorem law_c15 {p : Program} {l : Launch} {e : Env} {s : State} {m : MethodId} {below : List Frame} {meth : Method} {c : Code} {b L : Nat} {xs : Nat → Int32} {A : Nat → Prop} (hst : l.stackTraces = false) (G : Gx) (F : Fx G p s m #[.ref b] meth c cL_law 7 wsL_law RL A) (hbA : ¬ A b) (hL : L ≤ 2560) (hX : va_X b L xs s s.heap) (hbl : b < s.heap.size) (q mq : Nat → Nat) (o : Nat) (g : Nat → Int64) (w : va_W) (f : Nat → Int32) (a : Nat → Nat → Int32) (hS : SR G q w f a) (i : Nat) (hi5 : i + 5 ≤ L) (cells slots : Nat) (hc9 : cells + 8 ≤ 601024) (hs9 : slots + 1300 ≤ 7293034) (Q : State → Prop)
    (hk : ∀ (g2 : Nat → Int64) (w2 : va_W) (f2 : Nat → Int32) (a2 : Nat → Nat → Int32), SR G q w2 f2 a2 → ∀ (H : Heap) (locs : List Loc) (ls : Array Slot), HH G A s (w2 ++ outC G o g2 ++ mW G mq f2 a2) H locs → lv_has ls 7 [(4, .int (nI i)), (0, .ref b), (1, .ref (q 0)), (2, .ref (mq 0)), (3, .ref o)] → W p l e room_1 s m #[.ref b] below meth c H locs (cells + 8) (slots + 1300) Q (F0 m 1226 ls []))
    (H : Heap) (locs : List Loc) (ls : Array Slot) (hH : HH G A s (w ++ outC G o g ++ mW G mq f a) H locs) (hl : lv_has ls 7 [(4, .int (nI i)), (0, .ref b), (1, .ref (q 0)), (2, .ref (mq 0)), (3, .ref o)]) : W p l e room_1 s m #[.ref b] below meth c H locs cells slots Q (F0 m 1045 ls []) := by
  have hx := F.1.1
  have hb := F.1.2.1
  refine lv_aload_n hx hb dL_law_1045 rfl (lv_at hl 2 rfl) ?_
  refine lv_aload_n hx hb dL_law_1046 rfl (lv_at hl 1 rfl) ?_
  refine lv_iload hx hb dL_law_1047 (lv_at hl 0 rfl) ?_
  refine lv_iconst (v := 1) hx hb dL_law_1049 (by decide) ?_
  refine lv_iadd hx hb dL_law_1050 ?_
  refine rsld F hH hX hbl hbA (by omega) (i + 1) (nI_1 i) (by omega) dL_law_1051 ?_
  refine lv_aload_n hx hb dL_law_1052 rfl (lv_at hl 4 rfl) ?_
  obtain ⟨c1, s1, fr3, lo3, kk, b9, g2, sw2, f2, a2, hc1, hs1, hf3, hl3, M1, M2, h24, hk0, hSR⟩ := sim_check l hst G q mq o g w f a hS (xs (i + 1))
  refine callLI (rest := []) F M1 gL_law_L_check rfl hdL_check.2 ⟨Nat.le_of_ble_eq_true rfl, Nat.le_of_ble_eq_true rfl⟩ [] (mW G mq f a) hH (by simp) rfl hl.1 (Nat.le_of_ble_eq_true rfl) dL_law_1053 ⟨by show cells + c1 ≤ 601024; omega, by show slots + s1 ≤ 7293034; omega⟩ rfl (fun u H locs hH => ?_)
  have hH : HH G A s (sw2 u ++ outC G o g2 ++ mW G mq f a) H locs := by rw [List.nil_append] at hH; exact hH
  refine lv_istore (lv' := [(5, .int kk), (4, .int (nI i)), (0, .ref b), (1, .ref (q 0)), (2, .ref (mq 0)), (3, .ref o)]) hx hb dL_law_1056 hl (by decide) rfl (fun ls hl => ?_)
  refine lv_aload_n hx hb dL_law_1058 rfl (lv_at hl 4 rfl) ?_
  refine lv_aload_n hx hb dL_law_1059 rfl (lv_at hl 2 rfl) ?_
  refine lv_iload hx hb dL_law_1060 (lv_at hl 1 rfl) ?_
  refine lv_iconst (v := 1) hx hb dL_law_1062 (by decide) ?_
  refine lv_iadd hx hb dL_law_1063 ?_
  refine rsld F hH hX hbl hbA (by omega) (i + 1) (nI_1 i) (by omega) dL_law_1064 ?_
  refine callVI (rest := []) F M2 gL_law_X3_check rfl hdX3_check ⟨by show fr3 + 1 ≤ 11; omega, by show 8 + (7 + 11) + lo3 ≤ 388; omega⟩ (sw2 u ++ outC G o g2) [] hH (by simp) ⟨0, 3, _, _, rfl, rfl, rfl⟩ rfl hl.1 (Nat.le_of_ble_eq_true rfl) dL_law_1065 ⟨by show cells + c1 + 0 ≤ 601024; omega, by show slots + s1 + 0 ≤ 7293034; omega⟩ rfl (fun u9 H locs hH => ?_)
  have hH : HH G A s (sw2 u ++ outC G o g2 ++ mW G mq f2 a2) H locs := by rw [List.append_nil] at hH; exact hH
  refine lv_istore (lv' := [(6, .int b9), (5, .int kk), (4, .int (nI i)), (0, .ref b), (1, .ref (q 0)), (2, .ref (mq 0)), (3, .ref o)]) hx hb dL_law_1068 hl (by decide) rfl (fun ls hl => ?_)
  refine lv_aload_n hx hb dL_law_1070 rfl (lv_at hl 5 rfl) ?_
  refine callVI (rest := []) F (c_X3_thrown l G mq f2 a2) gL_law_X3_thrown rfl hdX3_thrown ⟨Nat.le_of_ble_eq_true rfl, Nat.le_of_ble_eq_true rfl⟩ (sw2 u ++ outC G o g2) [] hH (by simp) ⟨0, 3, _, _, rfl, rfl, rfl⟩ rfl hl.1 (Nat.le_of_ble_eq_true rfl) dL_law_1071 ⟨by show cells + c1 + 0 + 0 ≤ 601024; omega, by show slots + s1 + 0 + 0 ≤ 7293034; omega⟩ rfl (fun u9 H locs hH => ?_)
  have hH : HH G A s (sw2 u ++ outC G o g2 ++ mW G mq f2 a2) H locs := by rw [List.append_nil] at hH; exact hH
  refine lv_iload hx hb dL_law_1074 (lv_at hl 1 rfl) ?_
  refine lv_icmp_eq (tgt := 1081) hx hb dL_law_1076 (by decide) (fun c9 => ?_) (fun c9 => absurd (h24) c9)
  refine lv_iload hx hb dL_law_1081 (lv_at hl 1 rfl) ?_
  refine lv_if_ne (tgt := 1098) hx hb dL_law_1083 (by decide) (fun ck => ?_) (fun ck => ?_)
  · refine lv_goto (tgt := 1226) hx hb dL_law_1098 (by decide) ?_
    refine W.widen (k := cells + 8) (n := slots + 1300) (by show cells + c1 + 0 + 0 ≤ cells + 8; omega) (by show slots + s1 + 0 + 0 ≤ slots + 1300; omega) ?_
    exact hk g2 _ _ _ (hSR u) _ _ _ hH (lv_sub hl [2, 3, 4, 5, 6] rfl)
  · refine lv_aload_n hx hb dL_law_1086 rfl (lv_at hl 6 rfl) ?_
    refine lv_iconst (v := 0) hx hb dL_law_1087 (by decide) ?_
    refine rlald F hH ((sw2 u).length + 0) (n := 1) (f := g2) (mid_at (a := sw2 u) (w := outC G o g2) (b := mW G mq f2 a2) (k := 0) rfl) 0 rfl (by decide) (by decide) dL_law_1088 ?_
    refine lv_iload hx hb dL_law_1089 (lv_at hl 0 rfl) ?_
    refine lv_i2l hx hb dL_law_1091 rfl ?_
    refine W.lcmp hx hb dL_law_1092 ?_
    refine lv_if_eq (tgt := 1098) hx hb dL_law_1093 (by decide) (fun c9 => ?_) (fun c9 => absurd (by rw [hk0 ck]; exact lg_self _) c9)
    refine lv_goto (tgt := 1226) hx hb dL_law_1098 (by decide) ?_
    refine W.widen (k := cells + 8) (n := slots + 1300) (by show cells + c1 + 0 + 0 ≤ cells + 8; omega) (by show slots + s1 + 0 + 0 ≤ slots + 1300; omega) ?_
    exact hk g2 _ _ _ (hSR u) _ _ _ hH (lv_sub hl [2, 3, 4, 5, 6] rfl)

set_option maxHeartbeats 4000000 in
set_option maxRecDepth 100000 in
theorem law_c16 {p : Program} {l : Launch} {e : Env} {s : State} {m : MethodId} {below : List Frame} {meth : Method} {c : Code} {b L : Nat} {xs : Nat → Int32} {A : Nat → Prop} (hst : l.stackTraces = false) (G : Gx) (F : Fx G p s m #[.ref b] meth c cL_law 7 wsL_law RL A) (hbA : ¬ A b) (hL : L ≤ 2560) (hX : va_X b L xs s s.heap) (hbl : b < s.heap.size) (q mq : Nat → Nat) (o : Nat) (g : Nat → Int64) (w : va_W) (f : Nat → Int32) (a : Nat → Nat → Int32) (hS : SR G q w f a) (i : Nat) (hi5 : i + 5 ≤ L) (cells slots : Nat) (hc9 : cells + 8 ≤ 601024) (hs9 : slots + 1300 ≤ 7293034) (Q : State → Prop)
    (hk : ∀ (g2 : Nat → Int64) (w2 : va_W) (f2 : Nat → Int32) (a2 : Nat → Nat → Int32), SR G q w2 f2 a2 → ∀ (H : Heap) (locs : List Loc) (ls : Array Slot), HH G A s (w2 ++ outC G o g2 ++ mW G mq f2 a2) H locs → lv_has ls 7 [(4, .int (nI i)), (0, .ref b), (1, .ref (q 0)), (2, .ref (mq 0)), (3, .ref o)] → W p l e room_1 s m #[.ref b] below meth c H locs (cells + 8) (slots + 1300) Q (F0 m 1226 ls []))
    (H : Heap) (locs : List Loc) (ls : Array Slot) (hH : HH G A s (w ++ outC G o g ++ mW G mq f a) H locs) (hl : lv_has ls 7 [(4, .int (nI i)), (0, .ref b), (1, .ref (q 0)), (2, .ref (mq 0)), (3, .ref o)]) : W p l e room_1 s m #[.ref b] below meth c H locs cells slots Q (F0 m 1101 ls []) := by
  have hx := F.1.1
  have hb := F.1.2.1
  refine lv_aload_n hx hb dL_law_1101 rfl (lv_at hl 2 rfl) ?_
  obtain ⟨n, nc, t, fl, fd, k, wd, wf, wa, cd, cf, hw9, R9⟩ := hS
  subst hw9
  refine callVI (rest := []) F (c_X2_firmOwes l G q n nc t fl fd k wd wf wa cd cf) gL_law_X2_firmOwes rfl hdX2_firmOwes ⟨Nat.le_of_ble_eq_true rfl, Nat.le_of_ble_eq_true rfl⟩ [] (outC G o g ++ mW G mq f a) hH (by simp) ⟨0, 2, _, _, rfl, rfl, rfl⟩ rfl hl.1 (Nat.le_of_ble_eq_true rfl) dL_law_1102 ⟨by show cells + 0 ≤ 601024; omega, by show slots + 0 ≤ 7293034; omega⟩ rfl (fun u H locs hH => ?_)
  have hH : HH G A s (sW G q n nc t fl fd k wd wf wa cd cf ++ outC G o g ++ mW G mq f a) H locs := by rw [List.nil_append, ← List.append_assoc] at hH; exact hH
  refine lv_aload_n hx hb dL_law_1105 rfl (lv_at hl 3 rfl) ?_
  refine callVI (rest := [.int fd]) F (c_X3_firmOwes l G mq f a) gL_law_X3_firmOwes rfl hdX3_firmOwes ⟨Nat.le_of_ble_eq_true rfl, Nat.le_of_ble_eq_true rfl⟩ (sW G q n nc t fl fd k wd wf wa cd cf ++ outC G o g) [] hH (by simp) ⟨0, 3, _, _, rfl, rfl, rfl⟩ rfl hl.1 (Nat.le_of_ble_eq_true rfl) dL_law_1106 ⟨by show cells + 0 + 0 ≤ 601024; omega, by show slots + 0 + 0 ≤ 7293034; omega⟩ rfl (fun u H locs hH => ?_)
  have hH : HH G A s (sW G q n nc t fl fd k wd wf wa cd cf ++ outC G o g ++ mW G mq (va_up f 24 0) a) H locs := by rw [List.append_nil] at hH; exact hH
  refine lv_icmp_eq (tgt := 1226) hx hb dL_law_1109 (by decide) (fun c9 => ?_) (fun c9 => absurd (R9.1.2.2.2.2.2.2.2.1.symm) c9)
  refine W.widen (k := cells + 8) (n := slots + 1300) (by show cells + 0 + 0 ≤ cells + 8; omega) (by show slots + 0 + 0 ≤ slots + 1300; omega) ?_
  exact hk g _ _ _ ⟨n, nc, t, fl, fd, k, wd, wf, wa, cd, cf, rfl, R9.up24 0⟩ _ _ _ hH (lv_sub hl [0, 1, 2, 3, 4] rfl)

set_option maxHeartbeats 4000000 in
set_option maxRecDepth 100000 in
theorem law_c17 {p : Program} {l : Launch} {e : Env} {s : State} {m : MethodId} {below : List Frame} {meth : Method} {c : Code} {b L : Nat} {xs : Nat → Int32} {A : Nat → Prop} (hst : l.stackTraces = false) (G : Gx) (F : Fx G p s m #[.ref b] meth c cL_law 7 wsL_law RL A) (hbA : ¬ A b) (hL : L ≤ 2560) (hX : va_X b L xs s s.heap) (hbl : b < s.heap.size) (q mq : Nat → Nat) (o : Nat) (g : Nat → Int64) (w : va_W) (f : Nat → Int32) (a : Nat → Nat → Int32) (hS : SR G q w f a) (i : Nat) (hi5 : i + 5 ≤ L) (cells slots : Nat) (hc9 : cells + 8 ≤ 601024) (hs9 : slots + 1300 ≤ 7293034) (Q : State → Prop)
    (hk : ∀ (g2 : Nat → Int64) (w2 : va_W) (f2 : Nat → Int32) (a2 : Nat → Nat → Int32), SR G q w2 f2 a2 → ∀ (H : Heap) (locs : List Loc) (ls : Array Slot), HH G A s (w2 ++ outC G o g2 ++ mW G mq f2 a2) H locs → lv_has ls 7 [(4, .int (nI i)), (0, .ref b), (1, .ref (q 0)), (2, .ref (mq 0)), (3, .ref o)] → W p l e room_1 s m #[.ref b] below meth c H locs (cells + 8) (slots + 1300) Q (F0 m 1226 ls []))
    (H : Heap) (locs : List Loc) (ls : Array Slot) (hH : HH G A s (w ++ outC G o g ++ mW G mq f a) H locs) (hl : lv_has ls 7 [(4, .int (nI i)), (0, .ref b), (1, .ref (q 0)), (2, .ref (mq 0)), (3, .ref o)]) : W p l e room_1 s m #[.ref b] below meth c H locs cells slots Q (F0 m 1114 ls []) := by
  have hx := F.1.1
  have hb := F.1.2.1
  refine lv_aload_n hx hb dL_law_1114 rfl (lv_at hl 2 rfl) ?_
  refine lv_aload_n hx hb dL_law_1115 rfl (lv_at hl 1 rfl) ?_
  refine lv_iload hx hb dL_law_1116 (lv_at hl 0 rfl) ?_
  refine lv_iconst (v := 1) hx hb dL_law_1118 (by decide) ?_
  refine lv_iadd hx hb dL_law_1119 ?_
  refine rsld F hH hX hbl hbA (by omega) (i + 1) (nI_1 i) (by omega) dL_law_1120 ?_
  refine lv_aload_n hx hb dL_law_1121 rfl (lv_at hl 4 rfl) ?_
  obtain ⟨c1, s1, fr3, lo3, kk, b9, g2, sw2, f2, a2, hc1, hs1, hf3, hl3, M1, M2, h24, hk0, hSR⟩ := sim_owes l hst G q mq o g w f a hS (xs (i + 1))
  refine callLI (rest := []) F M1 gL_law_L_owes rfl hdL_owes.2 ⟨Nat.le_of_ble_eq_true rfl, Nat.le_of_ble_eq_true rfl⟩ [] (mW G mq f a) hH (by simp) rfl hl.1 (Nat.le_of_ble_eq_true rfl) dL_law_1122 ⟨by show cells + c1 ≤ 601024; omega, by show slots + s1 ≤ 7293034; omega⟩ rfl (fun u H locs hH => ?_)
  have hH : HH G A s (sw2 u ++ outC G o g2 ++ mW G mq f a) H locs := by rw [List.nil_append] at hH; exact hH
  refine lv_istore (lv' := [(5, .int kk), (4, .int (nI i)), (0, .ref b), (1, .ref (q 0)), (2, .ref (mq 0)), (3, .ref o)]) hx hb dL_law_1125 hl (by decide) rfl (fun ls hl => ?_)
  refine lv_aload_n hx hb dL_law_1127 rfl (lv_at hl 4 rfl) ?_
  refine lv_aload_n hx hb dL_law_1128 rfl (lv_at hl 2 rfl) ?_
  refine lv_iload hx hb dL_law_1129 (lv_at hl 1 rfl) ?_
  refine lv_iconst (v := 1) hx hb dL_law_1131 (by decide) ?_
  refine lv_iadd hx hb dL_law_1132 ?_
  refine rsld F hH hX hbl hbA (by omega) (i + 1) (nI_1 i) (by omega) dL_law_1133 ?_
  refine callVI (rest := []) F M2 gL_law_X3_owes rfl hdX3_owes ⟨by show fr3 + 1 ≤ 11; omega, by show 8 + (2 + 11) + lo3 ≤ 388; omega⟩ (sw2 u ++ outC G o g2) [] hH (by simp) ⟨0, 3, _, _, rfl, rfl, rfl⟩ rfl hl.1 (Nat.le_of_ble_eq_true rfl) dL_law_1134 ⟨by show cells + c1 + 0 ≤ 601024; omega, by show slots + s1 + 0 ≤ 7293034; omega⟩ rfl (fun u9 H locs hH => ?_)
  have hH : HH G A s (sw2 u ++ outC G o g2 ++ mW G mq f2 a2) H locs := by rw [List.append_nil] at hH; exact hH
  refine lv_istore (lv' := [(6, .int b9), (5, .int kk), (4, .int (nI i)), (0, .ref b), (1, .ref (q 0)), (2, .ref (mq 0)), (3, .ref o)]) hx hb dL_law_1137 hl (by decide) rfl (fun ls hl => ?_)
  refine lv_aload_n hx hb dL_law_1139 rfl (lv_at hl 5 rfl) ?_
  refine callVI (rest := []) F (c_X3_thrown l G mq f2 a2) gL_law_X3_thrown rfl hdX3_thrown ⟨Nat.le_of_ble_eq_true rfl, Nat.le_of_ble_eq_true rfl⟩ (sw2 u ++ outC G o g2) [] hH (by simp) ⟨0, 3, _, _, rfl, rfl, rfl⟩ rfl hl.1 (Nat.le_of_ble_eq_true rfl) dL_law_1140 ⟨by show cells + c1 + 0 + 0 ≤ 601024; omega, by show slots + s1 + 0 + 0 ≤ 7293034; omega⟩ rfl (fun u9 H locs hH => ?_)
  have hH : HH G A s (sw2 u ++ outC G o g2 ++ mW G mq f2 a2) H locs := by rw [List.append_nil] at hH; exact hH
  refine lv_iload hx hb dL_law_1143 (lv_at hl 1 rfl) ?_
  refine lv_icmp_eq (tgt := 1150) hx hb dL_law_1145 (by decide) (fun c9 => ?_) (fun c9 => absurd (h24) c9)
  refine lv_iload hx hb dL_law_1150 (lv_at hl 1 rfl) ?_
  refine lv_if_ne (tgt := 1167) hx hb dL_law_1152 (by decide) (fun ck => ?_) (fun ck => ?_)
  · refine lv_goto (tgt := 1226) hx hb dL_law_1167 (by decide) ?_
    refine W.widen (k := cells + 8) (n := slots + 1300) (by show cells + c1 + 0 + 0 ≤ cells + 8; omega) (by show slots + s1 + 0 + 0 ≤ slots + 1300; omega) ?_
    exact hk g2 _ _ _ (hSR u) _ _ _ hH (lv_sub hl [2, 3, 4, 5, 6] rfl)
  · refine lv_aload_n hx hb dL_law_1155 rfl (lv_at hl 6 rfl) ?_
    refine lv_iconst (v := 0) hx hb dL_law_1156 (by decide) ?_
    refine rlald F hH ((sw2 u).length + 0) (n := 1) (f := g2) (mid_at (a := sw2 u) (w := outC G o g2) (b := mW G mq f2 a2) (k := 0) rfl) 0 rfl (by decide) (by decide) dL_law_1157 ?_
    refine lv_iload hx hb dL_law_1158 (lv_at hl 0 rfl) ?_
    refine lv_i2l hx hb dL_law_1160 rfl ?_
    refine W.lcmp hx hb dL_law_1161 ?_
    refine lv_if_eq (tgt := 1167) hx hb dL_law_1162 (by decide) (fun c9 => ?_) (fun c9 => absurd (by rw [hk0 ck]; exact lg_self _) c9)
    refine lv_goto (tgt := 1226) hx hb dL_law_1167 (by decide) ?_
    refine W.widen (k := cells + 8) (n := slots + 1300) (by show cells + c1 + 0 + 0 ≤ cells + 8; omega) (by show slots + s1 + 0 + 0 ≤ slots + 1300; omega) ?_
    exact hk g2 _ _ _ (hSR u) _ _ _ hH (lv_sub hl [2, 3, 4, 5, 6] rfl)

set_option maxHeartbeats 4000000 in
set_option maxRecDepth 100000 in
theorem law_c18 {p : Program} {l : Launch} {e : Env} {s : State} {m : MethodId} {below : List Frame} {meth : Method} {c : Code} {b L : Nat} {xs : Nat → Int32} {A : Nat → Prop} (hst : l.stackTraces = false) (G : Gx) (F : Fx G p s m #[.ref b] meth c cL_law 7 wsL_law RL A) (hbA : ¬ A b) (hL : L ≤ 2560) (hX : va_X b L xs s s.heap) (hbl : b < s.heap.size) (q mq : Nat → Nat) (o : Nat) (g : Nat → Int64) (w : va_W) (f : Nat → Int32) (a : Nat → Nat → Int32) (hS : SR G q w f a) (i : Nat) (hi5 : i + 5 ≤ L) (cells slots : Nat) (hc9 : cells + 8 ≤ 601024) (hs9 : slots + 1300 ≤ 7293034) (Q : State → Prop)
    (hk : ∀ (g2 : Nat → Int64) (w2 : va_W) (f2 : Nat → Int32) (a2 : Nat → Nat → Int32), SR G q w2 f2 a2 → ∀ (H : Heap) (locs : List Loc) (ls : Array Slot), HH G A s (w2 ++ outC G o g2 ++ mW G mq f2 a2) H locs → lv_has ls 7 [(4, .int (nI i)), (0, .ref b), (1, .ref (q 0)), (2, .ref (mq 0)), (3, .ref o)] → W p l e room_1 s m #[.ref b] below meth c H locs (cells + 8) (slots + 1300) Q (F0 m 1226 ls []))
    (H : Heap) (locs : List Loc) (ls : Array Slot) (hH : HH G A s (w ++ outC G o g ++ mW G mq f a) H locs) (hl : lv_has ls 7 [(4, .int (nI i)), (0, .ref b), (1, .ref (q 0)), (2, .ref (mq 0)), (3, .ref o)]) : W p l e room_1 s m #[.ref b] below meth c H locs cells slots Q (F0 m 1170 ls []) := by
  have hx := F.1.1
  have hb := F.1.2.1
  refine lv_aload_n hx hb dL_law_1170 rfl (lv_at hl 2 rfl) ?_
  refine lv_aload_n hx hb dL_law_1171 rfl (lv_at hl 1 rfl) ?_
  refine lv_iload hx hb dL_law_1172 (lv_at hl 0 rfl) ?_
  refine lv_iconst (v := 1) hx hb dL_law_1174 (by decide) ?_
  refine lv_iadd hx hb dL_law_1175 ?_
  refine rsld F hH hX hbl hbA (by omega) (i + 1) (nI_1 i) (by omega) dL_law_1176 ?_
  refine lv_aload_n hx hb dL_law_1177 rfl (lv_at hl 4 rfl) ?_
  obtain ⟨c1, s1, fr3, lo3, kk, b9, g2, sw2, f2, a2, hc1, hs1, hf3, hl3, M1, M2, h24, hk0, hSR⟩ := sim_net l hst G q mq o g w f a hS (xs (i + 1))
  refine callLI (rest := []) F M1 gL_law_L_net rfl hdL_net.2 ⟨Nat.le_of_ble_eq_true rfl, Nat.le_of_ble_eq_true rfl⟩ [] (mW G mq f a) hH (by simp) rfl hl.1 (Nat.le_of_ble_eq_true rfl) dL_law_1178 ⟨by show cells + c1 ≤ 601024; omega, by show slots + s1 ≤ 7293034; omega⟩ rfl (fun u H locs hH => ?_)
  have hH : HH G A s (sw2 u ++ outC G o g2 ++ mW G mq f a) H locs := by rw [List.nil_append] at hH; exact hH
  refine lv_istore (lv' := [(5, .int kk), (4, .int (nI i)), (0, .ref b), (1, .ref (q 0)), (2, .ref (mq 0)), (3, .ref o)]) hx hb dL_law_1181 hl (by decide) rfl (fun ls hl => ?_)
  refine lv_aload_n hx hb dL_law_1183 rfl (lv_at hl 4 rfl) ?_
  refine lv_aload_n hx hb dL_law_1184 rfl (lv_at hl 2 rfl) ?_
  refine lv_iload hx hb dL_law_1185 (lv_at hl 1 rfl) ?_
  refine lv_iconst (v := 1) hx hb dL_law_1187 (by decide) ?_
  refine lv_iadd hx hb dL_law_1188 ?_
  refine rsld F hH hX hbl hbA (by omega) (i + 1) (nI_1 i) (by omega) dL_law_1189 ?_
  refine callVI (rest := []) F M2 gL_law_X3_net rfl hdX3_net ⟨by show fr3 + 1 ≤ 11; omega, by show 8 + (4 + 11) + lo3 ≤ 388; omega⟩ (sw2 u ++ outC G o g2) [] hH (by simp) ⟨0, 3, _, _, rfl, rfl, rfl⟩ rfl hl.1 (Nat.le_of_ble_eq_true rfl) dL_law_1190 ⟨by show cells + c1 + 0 ≤ 601024; omega, by show slots + s1 + 0 ≤ 7293034; omega⟩ rfl (fun u9 H locs hH => ?_)
  have hH : HH G A s (sw2 u ++ outC G o g2 ++ mW G mq f2 a2) H locs := by rw [List.append_nil] at hH; exact hH
  refine lv_istore (lv' := [(6, .int b9), (5, .int kk), (4, .int (nI i)), (0, .ref b), (1, .ref (q 0)), (2, .ref (mq 0)), (3, .ref o)]) hx hb dL_law_1193 hl (by decide) rfl (fun ls hl => ?_)
  refine lv_aload_n hx hb dL_law_1195 rfl (lv_at hl 5 rfl) ?_
  refine callVI (rest := []) F (c_X3_thrown l G mq f2 a2) gL_law_X3_thrown rfl hdX3_thrown ⟨Nat.le_of_ble_eq_true rfl, Nat.le_of_ble_eq_true rfl⟩ (sw2 u ++ outC G o g2) [] hH (by simp) ⟨0, 3, _, _, rfl, rfl, rfl⟩ rfl hl.1 (Nat.le_of_ble_eq_true rfl) dL_law_1196 ⟨by show cells + c1 + 0 + 0 ≤ 601024; omega, by show slots + s1 + 0 + 0 ≤ 7293034; omega⟩ rfl (fun u9 H locs hH => ?_)
  have hH : HH G A s (sw2 u ++ outC G o g2 ++ mW G mq f2 a2) H locs := by rw [List.append_nil] at hH; exact hH
  refine lv_iload hx hb dL_law_1199 (lv_at hl 1 rfl) ?_
  refine lv_icmp_eq (tgt := 1206) hx hb dL_law_1201 (by decide) (fun c9 => ?_) (fun c9 => absurd (h24) c9)
  refine lv_iload hx hb dL_law_1206 (lv_at hl 1 rfl) ?_
  refine lv_if_ne (tgt := 1223) hx hb dL_law_1208 (by decide) (fun ck => ?_) (fun ck => ?_)
  · refine lv_goto (tgt := 1226) hx hb dL_law_1223 (by decide) ?_
    refine W.widen (k := cells + 8) (n := slots + 1300) (by show cells + c1 + 0 + 0 ≤ cells + 8; omega) (by show slots + s1 + 0 + 0 ≤ slots + 1300; omega) ?_
    exact hk g2 _ _ _ (hSR u) _ _ _ hH (lv_sub hl [2, 3, 4, 5, 6] rfl)
  · refine lv_aload_n hx hb dL_law_1211 rfl (lv_at hl 6 rfl) ?_
    refine lv_iconst (v := 0) hx hb dL_law_1212 (by decide) ?_
    refine rlald F hH ((sw2 u).length + 0) (n := 1) (f := g2) (mid_at (a := sw2 u) (w := outC G o g2) (b := mW G mq f2 a2) (k := 0) rfl) 0 rfl (by decide) (by decide) dL_law_1213 ?_
    refine lv_iload hx hb dL_law_1214 (lv_at hl 0 rfl) ?_
    refine lv_i2l hx hb dL_law_1216 rfl ?_
    refine W.lcmp hx hb dL_law_1217 ?_
    refine lv_if_eq (tgt := 1223) hx hb dL_law_1218 (by decide) (fun c9 => ?_) (fun c9 => absurd (by rw [hk0 ck]; exact lg_self _) c9)
    refine lv_goto (tgt := 1226) hx hb dL_law_1223 (by decide) ?_
    refine W.widen (k := cells + 8) (n := slots + 1300) (by show cells + c1 + 0 + 0 ≤ cells + 8; omega) (by show slots + s1 + 0 + 0 ≤ slots + 1300; omega) ?_
    exact hk g2 _ _ _ (hSR u) _ _ _ hH (lv_sub hl [2, 3, 4, 5, 6] rfl)
