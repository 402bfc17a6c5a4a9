set_option maxHeartbeats 4000000 in
set_option maxRecDepth 100000 in
theorem h_add_ok (l : Launch) (G : Gx) (sw : va_W) (r0 : Nat) (p0 : Int32) (p1 : Int32) (o : Nat) (g : Nat → Int64) (rmc : Room) (hf9 : rmc.frames + 1 ≤ 9) (hl9 : 8 + (4 + 11) + rmc.locals ≤ 330) (hrec : ∃ (i ci : Nat) (fs : List Value) (z : vw_C), sw[i]? = some (r0, .inr (ci, fs)) ∧ vwCl[ci]? = some z ∧ z.1 = RX2) (sw2 : (Nat → Nat) → va_W) (ans : Int32) (hM : MI l yX2_add wsX2_add rmc [.ref r0, .int p0, .int p1] G sw sw2 ans) : MI l yL_add wsL_add ({ frames := 9, cells := rmc.cells, slots := rmc.slots, locals := 330 } : Room) [.ref r0, .int p0, .int p1, .ref o] G (sw ++ outC G o g) (fun u => sw2 u ++ outC G o (vp_updL g 0 ans.toInt64)) 0 := by
  refine ofLI (cc := cL_add) (maxL := 5) (ret := (some .int)) (hh := [(0, 10, 13, 13), (0, 10, 17, 15)]) (by decide) rfl (Nat.le_of_ble_eq_true rfl) (fun p e s m below meth c A ls F hr htb hH hl => ?_)
  have F : Fx G p s m _ meth c cL_add 5 wsL_add RL A := F
  have hx := F.1.1
  have hb := F.1.2.1
  have hl : lv_has ls 5 [(0, .ref r0), (1, .int p0), (2, .int p1), (3, .ref o)] := hl
  refine lv_aload_n hx hb dL_add_0 rfl (lv_at hl 3 rfl) ?_
  refine lv_iconst (v := 0) hx hb dL_add_1 (by decide) ?_
  refine lv_aload_n hx hb dL_add_2 rfl (lv_at hl 0 rfl) ?_
  refine lv_iload_n hx hb dL_add_3 rfl (lv_at hl 1 rfl) ?_
  refine lv_iload_n hx hb dL_add_4 rfl (lv_at hl 2 rfl) ?_
  refine callVI (a := []) (b := (outC G o g)) (rest := [.int 0, .ref o]) F hM gL_add_X2_add rfl hdX2_add ⟨hf9, hl9⟩ hH (by simp) hrec rfl hl.1 (Nat.le_of_ble_eq_true rfl) dL_add_5 ⟨by show 0 + rmc.cells ≤ rmc.cells; omega, by show 0 + rmc.slots ≤ rmc.slots; omega⟩ rfl (fun u H locs hH => ?_)
  have hH : HH G A s (sw2 u ++ outC G o g ++ []) H locs := by rw [List.nil_append] at hH; rw [List.append_nil]; exact hH
  refine lv_i2l hx hb dL_add_8 rfl ?_
  refine rlast F hH ((sw2 u).length + 0) (n := 1) (f := g) (mid_at (k := 0) rfl) 0 rfl (by decide) (by decide) dL_add_9 (fun H locs hH => ?_)
  have hH : HH G A s (sw2 u ++ outC G o (vp_updL g 0 ans.toInt64)) H locs := by rw [mid_set (Nat.zero_lt_succ _), List.append_nil] at hH; exact hH
  refine lv_goto (tgt := 21) hx hb dL_add_10 (by decide) ?_
  refine lv_iconst (v := 0) hx hb dL_add_21 (by decide) ?_
  exact retI F hr rfl u hH rfl (by show 0 + rmc.cells ≤ rmc.cells; omega) (by show 0 + rmc.slots ≤ rmc.slots; omega) dL_add_22

set_option maxHeartbeats 4000000 in
set_option maxRecDepth 100000 in
theorem h_add_x1 (l : Launch) (G : Gx) (sw : va_W) (r0 : Nat) (p0 : Int32) (p1 : Int32) (o : Nat) (g : Nat → Int64) (rmc : Room) (hf9 : rmc.frames + 1 ≤ 9) (hl9 : 8 + (4 + 11) + rmc.locals ≤ 330) (hrec : ∃ (i ci : Nat) (fs : List Value) (z : vw_C), sw[i]? = some (r0, .inr (ci, fs)) ∧ vwCl[ci]? = some z ∧ z.1 = RX2) (hM : MX l yX2_add wsX2_add rmc [.ref r0, .int p0, .int p1] G sw "java/lang/IllegalArgumentException") : MI l yL_add wsL_add ({ frames := 9, cells := rmc.cells, slots := rmc.slots, locals := 330 } : Room) [.ref r0, .int p0, .int p1, .ref o] G (sw ++ outC G o g) (fun u => sw ++ outC G o g) 1 := by
  refine ofLI (cc := cL_add) (maxL := 5) (ret := (some .int)) (hh := [(0, 10, 13, 13), (0, 10, 17, 15)]) (by decide) rfl (Nat.le_of_ble_eq_true rfl) (fun p e s m below meth c A ls F hr htb hH hl => ?_)
  have F : Fx G p s m _ meth c cL_add 5 wsL_add RL A := F
  have hx := F.1.1
  have hb := F.1.2.1
  have hl : lv_has ls 5 [(0, .ref r0), (1, .int p0), (2, .int p1), (3, .ref o)] := hl
  refine lv_aload_n hx hb dL_add_0 rfl (lv_at hl 3 rfl) ?_
  refine lv_iconst (v := 0) hx hb dL_add_1 (by decide) ?_
  refine lv_aload_n hx hb dL_add_2 rfl (lv_at hl 0 rfl) ?_
  refine lv_iload_n hx hb dL_add_3 rfl (lv_at hl 1 rfl) ?_
  refine lv_iload_n hx hb dL_add_4 rfl (lv_at hl 2 rfl) ?_
  refine callVX (a := []) (b := (outC G o g)) (rest := [.int 0, .ref o]) F hM gL_add_X2_add rfl hdX2_add ⟨hf9, hl9⟩ hH (by simp) hrec rfl hl.1 (Nat.le_of_ble_eq_true rfl) dL_add_5 ⟨by show 0 + rmc.cells ≤ rmc.cells; omega, by show 0 + rmc.slots ≤ rmc.slots; omega⟩ rfl (fun ce q9 H locs hH h1 h2 h3 => ?_)
  refine vx_catch (own := RL) (name := "java/lang/IllegalArgumentException") (E := "java/lang/IllegalArgumentException") F.1.2.2.2.1 [] ⟨0, 10, 13, 13⟩ [⟨0, 10, 17, 15⟩] (htb.trans rfl) (fun z hz => absurd hz List.not_mem_nil) rfl (by decide) (F.1.2.2.2.2 (.classLink RL 13 "java/lang/IllegalArgumentException") (by decide +kernel)) (va_tabs rfl rfl (F.2.2.2.1.2.2.2.1 (.castable "java/lang/IllegalArgumentException" "java/lang/IllegalArgumentException") (by decide +kernel))) h1 h2 h3 ?_
  refine lv_astore (lv' := [(4, .ref q9), (0, .ref r0), (1, .int p0), (2, .int p1), (3, .ref o)]) hx hb dL_add_13 hl (by decide) rfl (fun ls hl => ?_)
  refine lv_iconst (v := 1) hx hb dL_add_15 (by decide) ?_
  exact retI F hr rfl (fun _ => 0) hH rfl (by show 0 + rmc.cells ≤ rmc.cells; omega) (by show 0 + rmc.slots ≤ rmc.slots; omega) dL_add_16

set_option maxHeartbeats 4000000 in
set_option maxRecDepth 100000 in
theorem h_add_x2 (l : Launch) (G : Gx) (sw : va_W) (r0 : Nat) (p0 : Int32) (p1 : Int32) (o : Nat) (g : Nat → Int64) (rmc : Room) (hf9 : rmc.frames + 1 ≤ 9) (hl9 : 8 + (4 + 11) + rmc.locals ≤ 330) (hrec : ∃ (i ci : Nat) (fs : List Value) (z : vw_C), sw[i]? = some (r0, .inr (ci, fs)) ∧ vwCl[ci]? = some z ∧ z.1 = RX2) (hM : MX l yX2_add wsX2_add rmc [.ref r0, .int p0, .int p1] G sw "java/lang/IllegalStateException") : MI l yL_add wsL_add ({ frames := 9, cells := rmc.cells, slots := rmc.slots, locals := 330 } : Room) [.ref r0, .int p0, .int p1, .ref o] G (sw ++ outC G o g) (fun u => sw ++ outC G o g) 2 := by
  refine ofLI (cc := cL_add) (maxL := 5) (ret := (some .int)) (hh := [(0, 10, 13, 13), (0, 10, 17, 15)]) (by decide) rfl (Nat.le_of_ble_eq_true rfl) (fun p e s m below meth c A ls F hr htb hH hl => ?_)
  have F : Fx G p s m _ meth c cL_add 5 wsL_add RL A := F
  have hx := F.1.1
  have hb := F.1.2.1
  have hl : lv_has ls 5 [(0, .ref r0), (1, .int p0), (2, .int p1), (3, .ref o)] := hl
  refine lv_aload_n hx hb dL_add_0 rfl (lv_at hl 3 rfl) ?_
  refine lv_iconst (v := 0) hx hb dL_add_1 (by decide) ?_
  refine lv_aload_n hx hb dL_add_2 rfl (lv_at hl 0 rfl) ?_
  refine lv_iload_n hx hb dL_add_3 rfl (lv_at hl 1 rfl) ?_
  refine lv_iload_n hx hb dL_add_4 rfl (lv_at hl 2 rfl) ?_
  refine callVX (a := []) (b := (outC G o g)) (rest := [.int 0, .ref o]) F hM gL_add_X2_add rfl hdX2_add ⟨hf9, hl9⟩ hH (by simp) hrec rfl hl.1 (Nat.le_of_ble_eq_true rfl) dL_add_5 ⟨by show 0 + rmc.cells ≤ rmc.cells; omega, by show 0 + rmc.slots ≤ rmc.slots; omega⟩ rfl (fun ce q9 H locs hH h1 h2 h3 => ?_)
  refine vx_catch (own := RL) (name := "java/lang/IllegalStateException") (E := "java/lang/IllegalStateException") F.1.2.2.2.1 [⟨0, 10, 13, 13⟩] ⟨0, 10, 17, 15⟩ [] (htb.trans rfl) ?_ rfl (by decide) (F.1.2.2.2.2 (.classLink RL 15 "java/lang/IllegalStateException") (by decide +kernel)) (va_tabs rfl rfl (F.2.2.2.1.2.2.2.1 (.castable "java/lang/IllegalStateException" "java/lang/IllegalStateException") (by decide +kernel))) h1 h2 h3 ?_
  · intro z hz
    have hz := List.mem_singleton.mp hz
    subst hz
    exact Or.inr ⟨by decide, "java/lang/IllegalArgumentException", F.1.2.2.2.2 (.classLink RL 13 "java/lang/IllegalArgumentException") (by decide +kernel), F.2.2.2.1.2.2.2.2 ("java/lang/IllegalStateException", "java/lang/IllegalArgumentException") (by decide)⟩
  refine lv_astore (lv' := [(4, .ref q9), (0, .ref r0), (1, .int p0), (2, .int p1), (3, .ref o)]) hx hb dL_add_17 hl (by decide) rfl (fun ls hl => ?_)
  refine lv_iconst (v := 2) hx hb dL_add_19 (by decide) ?_
  exact retI F hr rfl (fun _ => 0) hH rfl (by show 0 + rmc.cells ≤ rmc.cells; omega) (by show 0 + rmc.slots ≤ rmc.slots; omega) dL_add_20

set_option maxHeartbeats 4000000 in
set_option maxRecDepth 100000 in
theorem h_notice_ok (l : Launch) (G : Gx) (sw : va_W) (r0 : Nat) (p0 : Int32) (p1 : Int32) (p2 : Int32) (p3 : Int32) (o : Nat) (g : Nat → Int64) (rmc : Room) (hf9 : rmc.frames + 1 ≤ 9) (hl9 : 8 + (6 + 11) + rmc.locals ≤ 330) (hrec : ∃ (i ci : Nat) (fs : List Value) (z : vw_C), sw[i]? = some (r0, .inr (ci, fs)) ∧ vwCl[ci]? = some z ∧ z.1 = RX2) (sw2 : (Nat → Nat) → va_W) (ans : Int32) (hM : MI l yX2_notice wsX2_notice rmc [.ref r0, .int p0, .int p1, .int p2, .int p3] G sw sw2 ans) : MI l yL_notice wsL_notice ({ frames := 9, cells := rmc.cells, slots := rmc.slots, locals := 330 } : Room) [.ref r0, .int p0, .int p1, .int p2, .int p3, .ref o] G (sw ++ outC G o g) (fun u => sw2 u ++ outC G o (vp_updL g 0 ans.toInt64)) 0 := by
  refine ofLI (cc := cL_notice) (maxL := 7) (ret := (some .int)) (hh := [(0, 14, 17, 21), (0, 14, 21, 13), (0, 14, 25, 15)]) (by decide) rfl (Nat.le_of_ble_eq_true rfl) (fun p e s m below meth c A ls F hr htb hH hl => ?_)
  have F : Fx G p s m _ meth c cL_notice 7 wsL_notice RL A := F
  have hx := F.1.1
  have hb := F.1.2.1
  have hl : lv_has ls 7 [(0, .ref r0), (1, .int p0), (2, .int p1), (3, .int p2), (4, .int p3), (5, .ref o)] := hl
  refine lv_aload hx hb dL_notice_0 (lv_at hl 5 rfl) ?_
  refine lv_iconst (v := 0) hx hb dL_notice_2 (by decide) ?_
  refine lv_aload_n hx hb dL_notice_3 rfl (lv_at hl 0 rfl) ?_
  refine lv_iload_n hx hb dL_notice_4 rfl (lv_at hl 1 rfl) ?_
  refine lv_iload_n hx hb dL_notice_5 rfl (lv_at hl 2 rfl) ?_
  refine lv_iload_n hx hb dL_notice_6 rfl (lv_at hl 3 rfl) ?_
  refine lv_iload hx hb dL_notice_7 (lv_at hl 4 rfl) ?_
  refine callVI (a := []) (b := (outC G o g)) (rest := [.int 0, .ref o]) F hM gL_notice_X2_notice rfl hdX2_notice ⟨hf9, hl9⟩ hH (by simp) hrec rfl hl.1 (Nat.le_of_ble_eq_true rfl) dL_notice_9 ⟨by show 0 + rmc.cells ≤ rmc.cells; omega, by show 0 + rmc.slots ≤ rmc.slots; omega⟩ rfl (fun u H locs hH => ?_)
  have hH : HH G A s (sw2 u ++ outC G o g ++ []) H locs := by rw [List.nil_append] at hH; rw [List.append_nil]; exact hH
  refine lv_i2l hx hb dL_notice_12 rfl ?_
  refine rlast F hH ((sw2 u).length + 0) (n := 1) (f := g) (mid_at (k := 0) rfl) 0 rfl (by decide) (by decide) dL_notice_13 (fun H locs hH => ?_)
  have hH : HH G A s (sw2 u ++ outC G o (vp_updL g 0 ans.toInt64)) H locs := by rw [mid_set (Nat.zero_lt_succ _), List.append_nil] at hH; exact hH
  refine lv_goto (tgt := 29) hx hb dL_notice_14 (by decide) ?_
  refine lv_iconst (v := 0) hx hb dL_notice_29 (by decide) ?_
  exact retI F hr rfl u hH rfl (by show 0 + rmc.cells ≤ rmc.cells; omega) (by show 0 + rmc.slots ≤ rmc.slots; omega) dL_notice_30

set_option maxHeartbeats 4000000 in
set_option maxRecDepth 100000 in
theorem h_notice_x1 (l : Launch) (G : Gx) (sw : va_W) (r0 : Nat) (p0 : Int32) (p1 : Int32) (p2 : Int32) (p3 : Int32) (o : Nat) (g : Nat → Int64) (rmc : Room) (hf9 : rmc.frames + 1 ≤ 9) (hl9 : 8 + (6 + 11) + rmc.locals ≤ 330) (hrec : ∃ (i ci : Nat) (fs : List Value) (z : vw_C), sw[i]? = some (r0, .inr (ci, fs)) ∧ vwCl[ci]? = some z ∧ z.1 = RX2) (hM : MX l yX2_notice wsX2_notice rmc [.ref r0, .int p0, .int p1, .int p2, .int p3] G sw "java/lang/IndexOutOfBoundsException") : MI l yL_notice wsL_notice ({ frames := 9, cells := rmc.cells, slots := rmc.slots, locals := 330 } : Room) [.ref r0, .int p0, .int p1, .int p2, .int p3, .ref o] G (sw ++ outC G o g) (fun u => sw ++ outC G o g) 1 := by
  refine ofLI (cc := cL_notice) (maxL := 7) (ret := (some .int)) (hh := [(0, 14, 17, 21), (0, 14, 21, 13), (0, 14, 25, 15)]) (by decide) rfl (Nat.le_of_ble_eq_true rfl) (fun p e s m below meth c A ls F hr htb hH hl => ?_)
  have F : Fx G p s m _ meth c cL_notice 7 wsL_notice RL A := F
  have hx := F.1.1
  have hb := F.1.2.1
  have hl : lv_has ls 7 [(0, .ref r0), (1, .int p0), (2, .int p1), (3, .int p2), (4, .int p3), (5, .ref o)] := hl
  refine lv_aload hx hb dL_notice_0 (lv_at hl 5 rfl) ?_
  refine lv_iconst (v := 0) hx hb dL_notice_2 (by decide) ?_
  refine lv_aload_n hx hb dL_notice_3 rfl (lv_at hl 0 rfl) ?_
  refine lv_iload_n hx hb dL_notice_4 rfl (lv_at hl 1 rfl) ?_
  refine lv_iload_n hx hb dL_notice_5 rfl (lv_at hl 2 rfl) ?_
  refine lv_iload_n hx hb dL_notice_6 rfl (lv_at hl 3 rfl) ?_
  refine lv_iload hx hb dL_notice_7 (lv_at hl 4 rfl) ?_
  refine callVX (a := []) (b := (outC G o g)) (rest := [.int 0, .ref o]) F hM gL_notice_X2_notice rfl hdX2_notice ⟨hf9, hl9⟩ hH (by simp) hrec rfl hl.1 (Nat.le_of_ble_eq_true rfl) dL_notice_9 ⟨by show 0 + rmc.cells ≤ rmc.cells; omega, by show 0 + rmc.slots ≤ rmc.slots; omega⟩ rfl (fun ce q9 H locs hH h1 h2 h3 => ?_)
  refine vx_catch (own := RL) (name := "java/lang/IndexOutOfBoundsException") (E := "java/lang/IndexOutOfBoundsException") F.1.2.2.2.1 [] ⟨0, 14, 17, 21⟩ [⟨0, 14, 21, 13⟩, ⟨0, 14, 25, 15⟩] (htb.trans rfl) (fun z hz => absurd hz List.not_mem_nil) rfl (by decide) (F.1.2.2.2.2 (.classLink RL 21 "java/lang/IndexOutOfBoundsException") (by decide +kernel)) (va_tabs rfl rfl (F.2.2.2.1.2.2.2.1 (.castable "java/lang/IndexOutOfBoundsException" "java/lang/IndexOutOfBoundsException") (by decide +kernel))) h1 h2 h3 ?_
  refine lv_astore (lv' := [(6, .ref q9), (0, .ref r0), (1, .int p0), (2, .int p1), (3, .int p2), (4, .int p3), (5, .ref o)]) hx hb dL_notice_17 hl (by decide) rfl (fun ls hl => ?_)
  refine lv_iconst (v := 1) hx hb dL_notice_19 (by decide) ?_
  exact retI F hr rfl (fun _ => 0) hH rfl (by show 0 + rmc.cells ≤ rmc.cells; omega) (by show 0 + rmc.slots ≤ rmc.slots; omega) dL_notice_20

set_option maxHeartbeats 4000000 in
set_option maxRecDepth 100000 in
theorem h_notice_x2 (l : Launch) (G : Gx) (sw : va_W) (r0 : Nat) (p0 : Int32) (p1 : Int32) (p2 : Int32) (p3 : Int32) (o : Nat) (g : Nat → Int64) (rmc : Room) (hf9 : rmc.frames + 1 ≤ 9) (hl9 : 8 + (6 + 11) + rmc.locals ≤ 330) (hrec : ∃ (i ci : Nat) (fs : List Value) (z : vw_C), sw[i]? = some (r0, .inr (ci, fs)) ∧ vwCl[ci]? = some z ∧ z.1 = RX2) (hM : MX l yX2_notice wsX2_notice rmc [.ref r0, .int p0, .int p1, .int p2, .int p3] G sw "java/lang/IllegalArgumentException") : MI l yL_notice wsL_notice ({ frames := 9, cells := rmc.cells, slots := rmc.slots, locals := 330 } : Room) [.ref r0, .int p0, .int p1, .int p2, .int p3, .ref o] G (sw ++ outC G o g) (fun u => sw ++ outC G o g) 2 := by
  refine ofLI (cc := cL_notice) (maxL := 7) (ret := (some .int)) (hh := [(0, 14, 17, 21), (0, 14, 21, 13), (0, 14, 25, 15)]) (by decide) rfl (Nat.le_of_ble_eq_true rfl) (fun p e s m below meth c A ls F hr htb hH hl => ?_)
  have F : Fx G p s m _ meth c cL_notice 7 wsL_notice RL A := F
  have hx := F.1.1
  have hb := F.1.2.1
  have hl : lv_has ls 7 [(0, .ref r0), (1, .int p0), (2, .int p1), (3, .int p2), (4, .int p3), (5, .ref o)] := hl
  refine lv_aload hx hb dL_notice_0 (lv_at hl 5 rfl) ?_
  refine lv_iconst (v := 0) hx hb dL_notice_2 (by decide) ?_
  refine lv_aload_n hx hb dL_notice_3 rfl (lv_at hl 0 rfl) ?_
  refine lv_iload_n hx hb dL_notice_4 rfl (lv_at hl 1 rfl) ?_
  refine lv_iload_n hx hb dL_notice_5 rfl (lv_at hl 2 rfl) ?_
  refine lv_iload_n hx hb dL_notice_6 rfl (lv_at hl 3 rfl) ?_
  refine lv_iload hx hb dL_notice_7 (lv_at hl 4 rfl) ?_
  refine callVX (a := []) (b := (outC G o g)) (rest := [.int 0, .ref o]) F hM gL_notice_X2_notice rfl hdX2_notice ⟨hf9, hl9⟩ hH (by simp) hrec rfl hl.1 (Nat.le_of_ble_eq_true rfl) dL_notice_9 ⟨by show 0 + rmc.cells ≤ rmc.cells; omega, by show 0 + rmc.slots ≤ rmc.slots; omega⟩ rfl (fun ce q9 H locs hH h1 h2 h3 => ?_)
  refine vx_catch (own := RL) (name := "java/lang/IllegalArgumentException") (E := "java/lang/IllegalArgumentException") F.1.2.2.2.1 [⟨0, 14, 17, 21⟩] ⟨0, 14, 21, 13⟩ [⟨0, 14, 25, 15⟩] (htb.trans rfl) ?_ rfl (by decide) (F.1.2.2.2.2 (.classLink RL 13 "java/lang/IllegalArgumentException") (by decide +kernel)) (va_tabs rfl rfl (F.2.2.2.1.2.2.2.1 (.castable "java/lang/IllegalArgumentException" "java/lang/IllegalArgumentException") (by decide +kernel))) h1 h2 h3 ?_
  · intro z hz
    have hz := List.mem_singleton.mp hz
    subst hz
    exact Or.inr ⟨by decide, "java/lang/IndexOutOfBoundsException", F.1.2.2.2.2 (.classLink RL 21 "java/lang/IndexOutOfBoundsException") (by decide +kernel), F.2.2.2.1.2.2.2.2 ("java/lang/IllegalArgumentException", "java/lang/IndexOutOfBoundsException") (by decide)⟩
  refine lv_astore (lv' := [(6, .ref q9), (0, .ref r0), (1, .int p0), (2, .int p1), (3, .int p2), (4, .int p3), (5, .ref o)]) hx hb dL_notice_21 hl (by decide) rfl (fun ls hl => ?_)
  refine lv_iconst (v := 2) hx hb dL_notice_23 (by decide) ?_
  exact retI F hr rfl (fun _ => 0) hH rfl (by show 0 + rmc.cells ≤ rmc.cells; omega) (by show 0 + rmc.slots ≤ rmc.slots; omega) dL_notice_24

set_option maxHeartbeats 4000000 in
set_option maxRecDepth 100000 in
theorem h_notice_x3 (l : Launch) (G : Gx) (sw : va_W) (r0 : Nat) (p0 : Int32) (p1 : Int32) (p2 : Int32) (p3 : Int32) (o : Nat) (g : Nat → Int64) (rmc : Room) (hf9 : rmc.frames + 1 ≤ 9) (hl9 : 8 + (6 + 11) + rmc.locals ≤ 330) (hrec : ∃ (i ci : Nat) (fs : List Value) (z : vw_C), sw[i]? = some (r0, .inr (ci, fs)) ∧ vwCl[ci]? = some z ∧ z.1 = RX2) (hM : MX l yX2_notice wsX2_notice rmc [.ref r0, .int p0, .int p1, .int p2, .int p3] G sw "java/lang/IllegalStateException") : MI l yL_notice wsL_notice ({ frames := 9, cells := rmc.cells, slots := rmc.slots, locals := 330 } : Room) [.ref r0, .int p0, .int p1, .int p2, .int p3, .ref o] G (sw ++ outC G o g) (fun u => sw ++ outC G o g) 3 := by
  refine ofLI (cc := cL_notice) (maxL := 7) (ret := (some .int)) (hh := [(0, 14, 17, 21), (0, 14, 21, 13), (0, 14, 25, 15)]) (by decide) rfl (Nat.le_of_ble_eq_true rfl) (fun p e s m below meth c A ls F hr htb hH hl => ?_)
  have F : Fx G p s m _ meth c cL_notice 7 wsL_notice RL A := F
  have hx := F.1.1
  have hb := F.1.2.1
  have hl : lv_has ls 7 [(0, .ref r0), (1, .int p0), (2, .int p1), (3, .int p2), (4, .int p3), (5, .ref o)] := hl
  refine lv_aload hx hb dL_notice_0 (lv_at hl 5 rfl) ?_
  refine lv_iconst (v := 0) hx hb dL_notice_2 (by decide) ?_
  refine lv_aload_n hx hb dL_notice_3 rfl (lv_at hl 0 rfl) ?_
  refine lv_iload_n hx hb dL_notice_4 rfl (lv_at hl 1 rfl) ?_
  refine lv_iload_n hx hb dL_notice_5 rfl (lv_at hl 2 rfl) ?_
  refine lv_iload_n hx hb dL_notice_6 rfl (lv_at hl 3 rfl) ?_
  refine lv_iload hx hb dL_notice_7 (lv_at hl 4 rfl) ?_
  refine callVX (a := []) (b := (outC G o g)) (rest := [.int 0, .ref o]) F hM gL_notice_X2_notice rfl hdX2_notice ⟨hf9, hl9⟩ hH (by simp) hrec rfl hl.1 (Nat.le_of_ble_eq_true rfl) dL_notice_9 ⟨by show 0 + rmc.cells ≤ rmc.cells; omega, by show 0 + rmc.slots ≤ rmc.slots; omega⟩ rfl (fun ce q9 H locs hH h1 h2 h3 => ?_)
  refine vx_catch (own := RL) (name := "java/lang/IllegalStateException") (E := "java/lang/IllegalStateException") F.1.2.2.2.1 [⟨0, 14, 17, 21⟩, ⟨0, 14, 21, 13⟩] ⟨0, 14, 25, 15⟩ [] (htb.trans rfl) ?_ rfl (by decide) (F.1.2.2.2.2 (.classLink RL 15 "java/lang/IllegalStateException") (by decide +kernel)) (va_tabs rfl rfl (F.2.2.2.1.2.2.2.1 (.castable "java/lang/IllegalStateException" "java/lang/IllegalStateException") (by decide +kernel))) h1 h2 h3 ?_
  · intro z hz
    rcases List.mem_cons.mp hz with hz | hz
    · subst hz
      exact Or.inr ⟨by decide, "java/lang/IndexOutOfBoundsException", F.1.2.2.2.2 (.classLink RL 21 "java/lang/IndexOutOfBoundsException") (by decide +kernel), F.2.2.2.1.2.2.2.2 ("java/lang/IllegalStateException", "java/lang/IndexOutOfBoundsException") (by decide)⟩
    · have hz := List.mem_singleton.mp hz
      subst hz
      exact Or.inr ⟨by decide, "java/lang/IllegalArgumentException", F.1.2.2.2.2 (.classLink RL 13 "java/lang/IllegalArgumentException") (by decide +kernel), F.2.2.2.1.2.2.2.2 ("java/lang/IllegalStateException", "java/lang/IllegalArgumentException") (by decide)⟩
  refine lv_astore (lv' := [(6, .ref q9), (0, .ref r0), (1, .int p0), (2, .int p1), (3, .int p2), (4, .int p3), (5, .ref o)]) hx hb dL_notice_25 hl (by decide) rfl (fun ls hl => ?_)
  refine lv_iconst (v := 3) hx hb dL_notice_27 (by decide) ?_
  exact retI F hr rfl (fun _ => 0) hH rfl (by show 0 + rmc.cells ≤ rmc.cells; omega) (by show 0 + rmc.slots ≤ rmc.slots; omega) dL_notice_28

set_option maxHeartbeats 4000000 in
set_option maxRecDepth 100000 in
theorem h_addCourse_ok (l : Launch) (G : Gx) (sw : va_W) (r0 : Nat) (p0 : Int32) (p1 : Int32) (p2 : Int32) (p3 : Int32) (o : Nat) (g : Nat → Int64) (rmc : Room) (hf9 : rmc.frames + 1 ≤ 9) (hl9 : 8 + (6 + 11) + rmc.locals ≤ 330) (hrec : ∃ (i ci : Nat) (fs : List Value) (z : vw_C), sw[i]? = some (r0, .inr (ci, fs)) ∧ vwCl[ci]? = some z ∧ z.1 = RX2) (sw2 : (Nat → Nat) → va_W) (ans : Int32) (hM : MI l yX2_addCourse wsX2_addCourse rmc [.ref r0, .int p0, .int p1, .int p2, .int p3] G sw sw2 ans) : MI l yL_addCourse wsL_addCourse ({ frames := 9, cells := rmc.cells, slots := rmc.slots, locals := 330 } : Room) [.ref r0, .int p0, .int p1, .int p2, .int p3, .ref o] G (sw ++ outC G o g) (fun u => sw2 u ++ outC G o (vp_updL g 0 ans.toInt64)) 0 := by
  refine ofLI (cc := cL_addCourse) (maxL := 7) (ret := (some .int)) (hh := [(0, 14, 17, 13), (0, 14, 21, 15)]) (by decide) rfl (Nat.le_of_ble_eq_true rfl) (fun p e s m below meth c A ls F hr htb hH hl => ?_)
  have F : Fx G p s m _ meth c cL_addCourse 7 wsL_addCourse RL A := F
  have hx := F.1.1
  have hb := F.1.2.1
  have hl : lv_has ls 7 [(0, .ref r0), (1, .int p0), (2, .int p1), (3, .int p2), (4, .int p3), (5, .ref o)] := hl
  refine lv_aload hx hb dL_addCourse_0 (lv_at hl 5 rfl) ?_
  refine lv_iconst (v := 0) hx hb dL_addCourse_2 (by decide) ?_
  refine lv_aload_n hx hb dL_addCourse_3 rfl (lv_at hl 0 rfl) ?_
  refine lv_iload_n hx hb dL_addCourse_4 rfl (lv_at hl 1 rfl) ?_
  refine lv_iload_n hx hb dL_addCourse_5 rfl (lv_at hl 2 rfl) ?_
  refine lv_iload_n hx hb dL_addCourse_6 rfl (lv_at hl 3 rfl) ?_
  refine lv_iload hx hb dL_addCourse_7 (lv_at hl 4 rfl) ?_
  refine callVI (a := []) (b := (outC G o g)) (rest := [.int 0, .ref o]) F hM gL_addCourse_X2_addCourse rfl hdX2_addCourse ⟨hf9, hl9⟩ hH (by simp) hrec rfl hl.1 (Nat.le_of_ble_eq_true rfl) dL_addCourse_9 ⟨by show 0 + rmc.cells ≤ rmc.cells; omega, by show 0 + rmc.slots ≤ rmc.slots; omega⟩ rfl (fun u H locs hH => ?_)
  have hH : HH G A s (sw2 u ++ outC G o g ++ []) H locs := by rw [List.nil_append] at hH; rw [List.append_nil]; exact hH
  refine lv_i2l hx hb dL_addCourse_12 rfl ?_
  refine rlast F hH ((sw2 u).length + 0) (n := 1) (f := g) (mid_at (k := 0) rfl) 0 rfl (by decide) (by decide) dL_addCourse_13 (fun H locs hH => ?_)
  have hH : HH G A s (sw2 u ++ outC G o (vp_updL g 0 ans.toInt64)) H locs := by rw [mid_set (Nat.zero_lt_succ _), List.append_nil] at hH; exact hH
  refine lv_goto (tgt := 25) hx hb dL_addCourse_14 (by decide) ?_
  refine lv_iconst (v := 0) hx hb dL_addCourse_25 (by decide) ?_
  exact retI F hr rfl u hH rfl (by show 0 + rmc.cells ≤ rmc.cells; omega) (by show 0 + rmc.slots ≤ rmc.slots; omega) dL_addCourse_26

set_option maxHeartbeats 4000000 in
set_option maxRecDepth 100000 in
theorem h_addCourse_x1 (l : Launch) (G : Gx) (sw : va_W) (r0 : Nat) (p0 : Int32) (p1 : Int32) (p2 : Int32) (p3 : Int32) (o : Nat) (g : Nat → Int64) (rmc : Room) (hf9 : rmc.frames + 1 ≤ 9) (hl9 : 8 + (6 + 11) + rmc.locals ≤ 330) (hrec : ∃ (i ci : Nat) (fs : List Value) (z : vw_C), sw[i]? = some (r0, .inr (ci, fs)) ∧ vwCl[ci]? = some z ∧ z.1 = RX2) (hM : MX l yX2_addCourse wsX2_addCourse rmc [.ref r0, .int p0, .int p1, .int p2, .int p3] G sw "java/lang/IllegalArgumentException") : MI l yL_addCourse wsL_addCourse ({ frames := 9, cells := rmc.cells, slots := rmc.slots, locals := 330 } : Room) [.ref r0, .int p0, .int p1, .int p2, .int p3, .ref o] G (sw ++ outC G o g) (fun u => sw ++ outC G o g) 1 := by
  refine ofLI (cc := cL_addCourse) (maxL := 7) (ret := (some .int)) (hh := [(0, 14, 17, 13), (0, 14, 21, 15)]) (by decide) rfl (Nat.le_of_ble_eq_true rfl) (fun p e s m below meth c A ls F hr htb hH hl => ?_)
  have F : Fx G p s m _ meth c cL_addCourse 7 wsL_addCourse RL A := F
  have hx := F.1.1
  have hb := F.1.2.1
  have hl : lv_has ls 7 [(0, .ref r0), (1, .int p0), (2, .int p1), (3, .int p2), (4, .int p3), (5, .ref o)] := hl
  refine lv_aload hx hb dL_addCourse_0 (lv_at hl 5 rfl) ?_
  refine lv_iconst (v := 0) hx hb dL_addCourse_2 (by decide) ?_
  refine lv_aload_n hx hb dL_addCourse_3 rfl (lv_at hl 0 rfl) ?_
  refine lv_iload_n hx hb dL_addCourse_4 rfl (lv_at hl 1 rfl) ?_
  refine lv_iload_n hx hb dL_addCourse_5 rfl (lv_at hl 2 rfl) ?_
  refine lv_iload_n hx hb dL_addCourse_6 rfl (lv_at hl 3 rfl) ?_
  refine lv_iload hx hb dL_addCourse_7 (lv_at hl 4 rfl) ?_
  refine callVX (a := []) (b := (outC G o g)) (rest := [.int 0, .ref o]) F hM gL_addCourse_X2_addCourse rfl hdX2_addCourse ⟨hf9, hl9⟩ hH (by simp) hrec rfl hl.1 (Nat.le_of_ble_eq_true rfl) dL_addCourse_9 ⟨by show 0 + rmc.cells ≤ rmc.cells; omega, by show 0 + rmc.slots ≤ rmc.slots; omega⟩ rfl (fun ce q9 H locs hH h1 h2 h3 => ?_)
  refine vx_catch (own := RL) (name := "java/lang/IllegalArgumentException") (E := "java/lang/IllegalArgumentException") F.1.2.2.2.1 [] ⟨0, 14, 17, 13⟩ [⟨0, 14, 21, 15⟩] (htb.trans rfl) (fun z hz => absurd hz List.not_mem_nil) rfl (by decide) (F.1.2.2.2.2 (.classLink RL 13 "java/lang/IllegalArgumentException") (by decide +kernel)) (va_tabs rfl rfl (F.2.2.2.1.2.2.2.1 (.castable "java/lang/IllegalArgumentException" "java/lang/IllegalArgumentException") (by decide +kernel))) h1 h2 h3 ?_
  refine lv_astore (lv' := [(6, .ref q9), (0, .ref r0), (1, .int p0), (2, .int p1), (3, .int p2), (4, .int p3), (5, .ref o)]) hx hb dL_addCourse_17 hl (by decide) rfl (fun ls hl => ?_)
  refine lv_iconst (v := 1) hx hb dL_addCourse_19 (by decide) ?_
  exact retI F hr rfl (fun _ => 0) hH rfl (by show 0 + rmc.cells ≤ rmc.cells; omega) (by show 0 + rmc.slots ≤ rmc.slots; omega) dL_addCourse_20

set_option maxHeartbeats 4000000 in
set_option maxRecDepth 100000 in
theorem h_addCourse_x2 (l : Launch) (G : Gx) (sw : va_W) (r0 : Nat) (p0 : Int32) (p1 : Int32) (p2 : Int32) (p3 : Int32) (o : Nat) (g : Nat → Int64) (rmc : Room) (hf9 : rmc.frames + 1 ≤ 9) (hl9 : 8 + (6 + 11) + rmc.locals ≤ 330) (hrec : ∃ (i ci : Nat) (fs : List Value) (z : vw_C), sw[i]? = some (r0, .inr (ci, fs)) ∧ vwCl[ci]? = some z ∧ z.1 = RX2) (hM : MX l yX2_addCourse wsX2_addCourse rmc [.ref r0, .int p0, .int p1, .int p2, .int p3] G sw "java/lang/IllegalStateException") : MI l yL_addCourse wsL_addCourse ({ frames := 9, cells := rmc.cells, slots := rmc.slots, locals := 330 } : Room) [.ref r0, .int p0, .int p1, .int p2, .int p3, .ref o] G (sw ++ outC G o g) (fun u => sw ++ outC G o g) 2 := by
  refine ofLI (cc := cL_addCourse) (maxL := 7) (ret := (some .int)) (hh := [(0, 14, 17, 13), (0, 14, 21, 15)]) (by decide) rfl (Nat.le_of_ble_eq_true rfl) (fun p e s m below meth c A ls F hr htb hH hl => ?_)
  have F : Fx G p s m _ meth c cL_addCourse 7 wsL_addCourse RL A := F
  have hx := F.1.1
  have hb := F.1.2.1
  have hl : lv_has ls 7 [(0, .ref r0), (1, .int p0), (2, .int p1), (3, .int p2), (4, .int p3), (5, .ref o)] := hl
  refine lv_aload hx hb dL_addCourse_0 (lv_at hl 5 rfl) ?_
  refine lv_iconst (v := 0) hx hb dL_addCourse_2 (by decide) ?_
  refine lv_aload_n hx hb dL_addCourse_3 rfl (lv_at hl 0 rfl) ?_
  refine lv_iload_n hx hb dL_addCourse_4 rfl (lv_at hl 1 rfl) ?_
  refine lv_iload_n hx hb dL_addCourse_5 rfl (lv_at hl 2 rfl) ?_
  refine lv_iload_n hx hb dL_addCourse_6 rfl (lv_at hl 3 rfl) ?_
  refine lv_iload hx hb dL_addCourse_7 (lv_at hl 4 rfl) ?_
  refine callVX (a := []) (b := (outC G o g)) (rest := [.int 0, .ref o]) F hM gL_addCourse_X2_addCourse rfl hdX2_addCourse ⟨hf9, hl9⟩ hH (by simp) hrec rfl hl.1 (Nat.le_of_ble_eq_true rfl) dL_addCourse_9 ⟨by show 0 + rmc.cells ≤ rmc.cells; omega, by show 0 + rmc.slots ≤ rmc.slots; omega⟩ rfl (fun ce q9 H locs hH h1 h2 h3 => ?_)
  refine vx_catch (own := RL) (name := "java/lang/IllegalStateException") (E := "java/lang/IllegalStateException") F.1.2.2.2.1 [⟨0, 14, 17, 13⟩] ⟨0, 14, 21, 15⟩ [] (htb.trans rfl) ?_ rfl (by decide) (F.1.2.2.2.2 (.classLink RL 15 "java/lang/IllegalStateException") (by decide +kernel)) (va_tabs rfl rfl (F.2.2.2.1.2.2.2.1 (.castable "java/lang/IllegalStateException" "java/lang/IllegalStateException") (by decide +kernel))) h1 h2 h3 ?_
  · intro z hz
    have hz := List.mem_singleton.mp hz
    subst hz
    exact Or.inr ⟨by decide, "java/lang/IllegalArgumentException", F.1.2.2.2.2 (.classLink RL 13 "java/lang/IllegalArgumentException") (by decide +kernel), F.2.2.2.1.2.2.2.2 ("java/lang/IllegalStateException", "java/lang/IllegalArgumentException") (by decide)⟩
  refine lv_astore (lv' := [(6, .ref q9), (0, .ref r0), (1, .int p0), (2, .int p1), (3, .int p2), (4, .int p3), (5, .ref o)]) hx hb dL_addCourse_21 hl (by decide) rfl (fun ls hl => ?_)
  refine lv_iconst (v := 2) hx hb dL_addCourse_23 (by decide) ?_
  exact retI F hr rfl (fun _ => 0) hH rfl (by show 0 + rmc.cells ≤ rmc.cells; omega) (by show 0 + rmc.slots ≤ rmc.slots; omega) dL_addCourse_24

set_option maxHeartbeats 4000000 in
set_option maxRecDepth 100000 in
theorem h_enrol_ok (l : Launch) (G : Gx) (sw : va_W) (r0 : Nat) (p0 : Int32) (p1 : Int32) (o : Nat) (g : Nat → Int64) (rmc : Room) (hf9 : rmc.frames + 1 ≤ 9) (hl9 : 8 + (5 + 11) + rmc.locals ≤ 330) (hrec : ∃ (i ci : Nat) (fs : List Value) (z : vw_C), sw[i]? = some (r0, .inr (ci, fs)) ∧ vwCl[ci]? = some z ∧ z.1 = RX2) (sw2 : (Nat → Nat) → va_W) (ans : Int32) (hM : MI l yX2_enrol wsX2_enrol rmc [.ref r0, .int p0, .int p1] G sw sw2 ans) : MI l yL_enrol wsL_enrol ({ frames := 9, cells := rmc.cells, slots := rmc.slots, locals := 330 } : Room) [.ref r0, .int p0, .int p1, .ref o] G (sw ++ outC G o g) (fun u => sw2 u ++ outC G o (vp_updL g 0 ans.toInt64)) 0 := by
  refine ofLI (cc := cL_enrol) (maxL := 5) (ret := (some .int)) (hh := [(0, 10, 13, 21), (0, 10, 17, 15)]) (by decide) rfl (Nat.le_of_ble_eq_true rfl) (fun p e s m below meth c A ls F hr htb hH hl => ?_)
  have F : Fx G p s m _ meth c cL_enrol 5 wsL_enrol RL A := F
  have hx := F.1.1
  have hb := F.1.2.1
  have hl : lv_has ls 5 [(0, .ref r0), (1, .int p0), (2, .int p1), (3, .ref o)] := hl
  refine lv_aload_n hx hb dL_enrol_0 rfl (lv_at hl 3 rfl) ?_
  refine lv_iconst (v := 0) hx hb dL_enrol_1 (by decide) ?_
  refine lv_aload_n hx hb dL_enrol_2 rfl (lv_at hl 0 rfl) ?_
  refine lv_iload_n hx hb dL_enrol_3 rfl (lv_at hl 1 rfl) ?_
  refine lv_iload_n hx hb dL_enrol_4 rfl (lv_at hl 2 rfl) ?_
  refine callVI (a := []) (b := (outC G o g)) (rest := [.int 0, .ref o]) F hM gL_enrol_X2_enrol rfl hdX2_enrol ⟨hf9, hl9⟩ hH (by simp) hrec rfl hl.1 (Nat.le_of_ble_eq_true rfl) dL_enrol_5 ⟨by show 0 + rmc.cells ≤ rmc.cells; omega, by show 0 + rmc.slots ≤ rmc.slots; omega⟩ rfl (fun u H locs hH => ?_)
  have hH : HH G A s (sw2 u ++ outC G o g ++ []) H locs := by rw [List.nil_append] at hH; rw [List.append_nil]; exact hH
  refine lv_i2l hx hb dL_enrol_8 rfl ?_
  refine rlast F hH ((sw2 u).length + 0) (n := 1) (f := g) (mid_at (k := 0) rfl) 0 rfl (by decide) (by decide) dL_enrol_9 (fun H locs hH => ?_)
  have hH : HH G A s (sw2 u ++ outC G o (vp_updL g 0 ans.toInt64)) H locs := by rw [mid_set (Nat.zero_lt_succ _), List.append_nil] at hH; exact hH
  refine lv_goto (tgt := 21) hx hb dL_enrol_10 (by decide) ?_
  refine lv_iconst (v := 0) hx hb dL_enrol_21 (by decide) ?_
  exact retI F hr rfl u hH rfl (by show 0 + rmc.cells ≤ rmc.cells; omega) (by show 0 + rmc.slots ≤ rmc.slots; omega) dL_enrol_22

set_option maxHeartbeats 4000000 in
set_option maxRecDepth 100000 in
theorem h_enrol_x1 (l : Launch) (G : Gx) (sw : va_W) (r0 : Nat) (p0 : Int32) (p1 : Int32) (o : Nat) (g : Nat → Int64) (rmc : Room) (hf9 : rmc.frames + 1 ≤ 9) (hl9 : 8 + (5 + 11) + rmc.locals ≤ 330) (hrec : ∃ (i ci : Nat) (fs : List Value) (z : vw_C), sw[i]? = some (r0, .inr (ci, fs)) ∧ vwCl[ci]? = some z ∧ z.1 = RX2) (hM : MX l yX2_enrol wsX2_enrol rmc [.ref r0, .int p0, .int p1] G sw "java/lang/IndexOutOfBoundsException") : MI l yL_enrol wsL_enrol ({ frames := 9, cells := rmc.cells, slots := rmc.slots, locals := 330 } : Room) [.ref r0, .int p0, .int p1, .ref o] G (sw ++ outC G o g) (fun u => sw ++ outC G o g) 1 := by
  refine ofLI (cc := cL_enrol) (maxL := 5) (ret := (some .int)) (hh := [(0, 10, 13, 21), (0, 10, 17, 15)]) (by decide) rfl (Nat.le_of_ble_eq_true rfl) (fun p e s m below meth c A ls F hr htb hH hl => ?_)
  have F : Fx G p s m _ meth c cL_enrol 5 wsL_enrol RL A := F
  have hx := F.1.1
  have hb := F.1.2.1
  have hl : lv_has ls 5 [(0, .ref r0), (1, .int p0), (2, .int p1), (3, .ref o)] := hl
  refine lv_aload_n hx hb dL_enrol_0 rfl (lv_at hl 3 rfl) ?_
  refine lv_iconst (v := 0) hx hb dL_enrol_1 (by decide) ?_
  refine lv_aload_n hx hb dL_enrol_2 rfl (lv_at hl 0 rfl) ?_
  refine lv_iload_n hx hb dL_enrol_3 rfl (lv_at hl 1 rfl) ?_
  refine lv_iload_n hx hb dL_enrol_4 rfl (lv_at hl 2 rfl) ?_
  refine callVX (a := []) (b := (outC G o g)) (rest := [.int 0, .ref o]) F hM gL_enrol_X2_enrol rfl hdX2_enrol ⟨hf9, hl9⟩ hH (by simp) hrec rfl hl.1 (Nat.le_of_ble_eq_true rfl) dL_enrol_5 ⟨by show 0 + rmc.cells ≤ rmc.cells; omega, by show 0 + rmc.slots ≤ rmc.slots; omega⟩ rfl (fun ce q9 H locs hH h1 h2 h3 => ?_)
  refine vx_catch (own := RL) (name := "java/lang/IndexOutOfBoundsException") (E := "java/lang/IndexOutOfBoundsException") F.1.2.2.2.1 [] ⟨0, 10, 13, 21⟩ [⟨0, 10, 17, 15⟩] (htb.trans rfl) (fun z hz => absurd hz List.not_mem_nil) rfl (by decide) (F.1.2.2.2.2 (.classLink RL 21 "java/lang/IndexOutOfBoundsException") (by decide +kernel)) (va_tabs rfl rfl (F.2.2.2.1.2.2.2.1 (.castable "java/lang/IndexOutOfBoundsException" "java/lang/IndexOutOfBoundsException") (by decide +kernel))) h1 h2 h3 ?_
  refine lv_astore (lv' := [(4, .ref q9), (0, .ref r0), (1, .int p0), (2, .int p1), (3, .ref o)]) hx hb dL_enrol_13 hl (by decide) rfl (fun ls hl => ?_)
  refine lv_iconst (v := 1) hx hb dL_enrol_15 (by decide) ?_
  exact retI F hr rfl (fun _ => 0) hH rfl (by show 0 + rmc.cells ≤ rmc.cells; omega) (by show 0 + rmc.slots ≤ rmc.slots; omega) dL_enrol_16

set_option maxHeartbeats 4000000 in
set_option maxRecDepth 100000 in
theorem h_enrol_x2 (l : Launch) (G : Gx) (sw : va_W) (r0 : Nat) (p0 : Int32) (p1 : Int32) (o : Nat) (g : Nat → Int64) (rmc : Room) (hf9 : rmc.frames + 1 ≤ 9) (hl9 : 8 + (5 + 11) + rmc.locals ≤ 330) (hrec : ∃ (i ci : Nat) (fs : List Value) (z : vw_C), sw[i]? = some (r0, .inr (ci, fs)) ∧ vwCl[ci]? = some z ∧ z.1 = RX2) (hM : MX l yX2_enrol wsX2_enrol rmc [.ref r0, .int p0, .int p1] G sw "java/lang/IllegalStateException") : MI l yL_enrol wsL_enrol ({ frames := 9, cells := rmc.cells, slots := rmc.slots, locals := 330 } : Room) [.ref r0, .int p0, .int p1, .ref o] G (sw ++ outC G o g) (fun u => sw ++ outC G o g) 2 := by
  refine ofLI (cc := cL_enrol) (maxL := 5) (ret := (some .int)) (hh := [(0, 10, 13, 21), (0, 10, 17, 15)]) (by decide) rfl (Nat.le_of_ble_eq_true rfl) (fun p e s m below meth c A ls F hr htb hH hl => ?_)
  have F : Fx G p s m _ meth c cL_enrol 5 wsL_enrol RL A := F
  have hx := F.1.1
  have hb := F.1.2.1
  have hl : lv_has ls 5 [(0, .ref r0), (1, .int p0), (2, .int p1), (3, .ref o)] := hl
  refine lv_aload_n hx hb dL_enrol_0 rfl (lv_at hl 3 rfl) ?_
  refine lv_iconst (v := 0) hx hb dL_enrol_1 (by decide) ?_
  refine lv_aload_n hx hb dL_enrol_2 rfl (lv_at hl 0 rfl) ?_
  refine lv_iload_n hx hb dL_enrol_3 rfl (lv_at hl 1 rfl) ?_
  refine lv_iload_n hx hb dL_enrol_4 rfl (lv_at hl 2 rfl) ?_
  refine callVX (a := []) (b := (outC G o g)) (rest := [.int 0, .ref o]) F hM gL_enrol_X2_enrol rfl hdX2_enrol ⟨hf9, hl9⟩ hH (by simp) hrec rfl hl.1 (Nat.le_of_ble_eq_true rfl) dL_enrol_5 ⟨by show 0 + rmc.cells ≤ rmc.cells; omega, by show 0 + rmc.slots ≤ rmc.slots; omega⟩ rfl (fun ce q9 H locs hH h1 h2 h3 => ?_)
  refine vx_catch (own := RL) (name := "java/lang/IllegalStateException") (E := "java/lang/IllegalStateException") F.1.2.2.2.1 [⟨0, 10, 13, 21⟩] ⟨0, 10, 17, 15⟩ [] (htb.trans rfl) ?_ rfl (by decide) (F.1.2.2.2.2 (.classLink RL 15 "java/lang/IllegalStateException") (by decide +kernel)) (va_tabs rfl rfl (F.2.2.2.1.2.2.2.1 (.castable "java/lang/IllegalStateException" "java/lang/IllegalStateException") (by decide +kernel))) h1 h2 h3 ?_
  · intro z hz
    have hz := List.mem_singleton.mp hz
    subst hz
    exact Or.inr ⟨by decide, "java/lang/IndexOutOfBoundsException", F.1.2.2.2.2 (.classLink RL 21 "java/lang/IndexOutOfBoundsException") (by decide +kernel), F.2.2.2.1.2.2.2.2 ("java/lang/IllegalStateException", "java/lang/IndexOutOfBoundsException") (by decide)⟩
  refine lv_astore (lv' := [(4, .ref q9), (0, .ref r0), (1, .int p0), (2, .int p1), (3, .ref o)]) hx hb dL_enrol_17 hl (by decide) rfl (fun ls hl => ?_)
  refine lv_iconst (v := 2) hx hb dL_enrol_19 (by decide) ?_
  exact retI F hr rfl (fun _ => 0) hH rfl (by show 0 + rmc.cells ≤ rmc.cells; omega) (by show 0 + rmc.slots ≤ rmc.slots; omega) dL_enrol_20

set_option maxHeartbeats 4000000 in
set_option maxRecDepth 100000 in
theorem h_setFloor_ok (l : Launch) (G : Gx) (sw : va_W) (r0 : Nat) (p0 : Int32) (o : Nat) (g : Nat → Int64) (rmc : Room) (hf9 : rmc.frames + 1 ≤ 9) (hl9 : 8 + (3 + 11) + rmc.locals ≤ 330) (hrec : ∃ (i ci : Nat) (fs : List Value) (z : vw_C), sw[i]? = some (r0, .inr (ci, fs)) ∧ vwCl[ci]? = some z ∧ z.1 = RX2) (sw2 : (Nat → Nat) → va_W) (ans : Int32) (hM : MI l yX2_setFloor wsX2_setFloor rmc [.ref r0, .int p0] G sw sw2 ans) : MI l yL_setFloor wsL_setFloor ({ frames := 9, cells := rmc.cells, slots := rmc.slots, locals := 330 } : Room) [.ref r0, .int p0, .ref o] G (sw ++ outC G o g) (fun u => sw2 u ++ outC G o (vp_updL g 0 ans.toInt64)) 0 := by
  refine ofLI (cc := cL_setFloor) (maxL := 4) (ret := (some .int)) (hh := [(0, 9, 12, 13)]) (by decide) rfl (Nat.le_of_ble_eq_true rfl) (fun p e s m below meth c A ls F hr htb hH hl => ?_)
  have F : Fx G p s m _ meth c cL_setFloor 4 wsL_setFloor RL A := F
  have hx := F.1.1
  have hb := F.1.2.1
  have hl : lv_has ls 4 [(0, .ref r0), (1, .int p0), (2, .ref o)] := hl
  refine lv_aload_n hx hb dL_setFloor_0 rfl (lv_at hl 2 rfl) ?_
  refine lv_iconst (v := 0) hx hb dL_setFloor_1 (by decide) ?_
  refine lv_aload_n hx hb dL_setFloor_2 rfl (lv_at hl 0 rfl) ?_
  refine lv_iload_n hx hb dL_setFloor_3 rfl (lv_at hl 1 rfl) ?_
  refine callVI (a := []) (b := (outC G o g)) (rest := [.int 0, .ref o]) F hM gL_setFloor_X2_setFloor rfl hdX2_setFloor ⟨hf9, hl9⟩ hH (by simp) hrec rfl hl.1 (Nat.le_of_ble_eq_true rfl) dL_setFloor_4 ⟨by show 0 + rmc.cells ≤ rmc.cells; omega, by show 0 + rmc.slots ≤ rmc.slots; omega⟩ rfl (fun u H locs hH => ?_)
  have hH : HH G A s (sw2 u ++ outC G o g ++ []) H locs := by rw [List.nil_append] at hH; rw [List.append_nil]; exact hH
  refine lv_i2l hx hb dL_setFloor_7 rfl ?_
  refine rlast F hH ((sw2 u).length + 0) (n := 1) (f := g) (mid_at (k := 0) rfl) 0 rfl (by decide) (by decide) dL_setFloor_8 (fun H locs hH => ?_)
  have hH : HH G A s (sw2 u ++ outC G o (vp_updL g 0 ans.toInt64)) H locs := by rw [mid_set (Nat.zero_lt_succ _), List.append_nil] at hH; exact hH
  refine lv_goto (tgt := 15) hx hb dL_setFloor_9 (by decide) ?_
  refine lv_iconst (v := 0) hx hb dL_setFloor_15 (by decide) ?_
  exact retI F hr rfl u hH rfl (by show 0 + rmc.cells ≤ rmc.cells; omega) (by show 0 + rmc.slots ≤ rmc.slots; omega) dL_setFloor_16

set_option maxHeartbeats 4000000 in
set_option maxRecDepth 100000 in
theorem h_setFloor_x1 (l : Launch) (G : Gx) (sw : va_W) (r0 : Nat) (p0 : Int32) (o : Nat) (g : Nat → Int64) (rmc : Room) (hf9 : rmc.frames + 1 ≤ 9) (hl9 : 8 + (3 + 11) + rmc.locals ≤ 330) (hrec : ∃ (i ci : Nat) (fs : List Value) (z : vw_C), sw[i]? = some (r0, .inr (ci, fs)) ∧ vwCl[ci]? = some z ∧ z.1 = RX2) (hM : MX l yX2_setFloor wsX2_setFloor rmc [.ref r0, .int p0] G sw "java/lang/IllegalArgumentException") : MI l yL_setFloor wsL_setFloor ({ frames := 9, cells := rmc.cells, slots := rmc.slots, locals := 330 } : Room) [.ref r0, .int p0, .ref o] G (sw ++ outC G o g) (fun u => sw ++ outC G o g) 1 := by
  refine ofLI (cc := cL_setFloor) (maxL := 4) (ret := (some .int)) (hh := [(0, 9, 12, 13)]) (by decide) rfl (Nat.le_of_ble_eq_true rfl) (fun p e s m below meth c A ls F hr htb hH hl => ?_)
  have F : Fx G p s m _ meth c cL_setFloor 4 wsL_setFloor RL A := F
  have hx := F.1.1
  have hb := F.1.2.1
  have hl : lv_has ls 4 [(0, .ref r0), (1, .int p0), (2, .ref o)] := hl
  refine lv_aload_n hx hb dL_setFloor_0 rfl (lv_at hl 2 rfl) ?_
  refine lv_iconst (v := 0) hx hb dL_setFloor_1 (by decide) ?_
  refine lv_aload_n hx hb dL_setFloor_2 rfl (lv_at hl 0 rfl) ?_
  refine lv_iload_n hx hb dL_setFloor_3 rfl (lv_at hl 1 rfl) ?_
  refine callVX (a := []) (b := (outC G o g)) (rest := [.int 0, .ref o]) F hM gL_setFloor_X2_setFloor rfl hdX2_setFloor ⟨hf9, hl9⟩ hH (by simp) hrec rfl hl.1 (Nat.le_of_ble_eq_true rfl) dL_setFloor_4 ⟨by show 0 + rmc.cells ≤ rmc.cells; omega, by show 0 + rmc.slots ≤ rmc.slots; omega⟩ rfl (fun ce q9 H locs hH h1 h2 h3 => ?_)
  refine vx_catch (own := RL) (name := "java/lang/IllegalArgumentException") (E := "java/lang/IllegalArgumentException") F.1.2.2.2.1 [] ⟨0, 9, 12, 13⟩ [] (htb.trans rfl) (fun z hz => absurd hz List.not_mem_nil) rfl (by decide) (F.1.2.2.2.2 (.classLink RL 13 "java/lang/IllegalArgumentException") (by decide +kernel)) (va_tabs rfl rfl (F.2.2.2.1.2.2.2.1 (.castable "java/lang/IllegalArgumentException" "java/lang/IllegalArgumentException") (by decide +kernel))) h1 h2 h3 ?_
  refine lv_astore_n (lv' := [(3, .ref q9), (0, .ref r0), (1, .int p0), (2, .ref o)]) hx hb dL_setFloor_12 rfl hl (by decide) rfl (fun ls hl => ?_)
  refine lv_iconst (v := 1) hx hb dL_setFloor_13 (by decide) ?_
  exact retI F hr rfl (fun _ => 0) hH rfl (by show 0 + rmc.cells ≤ rmc.cells; omega) (by show 0 + rmc.slots ≤ rmc.slots; omega) dL_setFloor_14

set_option maxHeartbeats 4000000 in
set_option maxRecDepth 100000 in
theorem h_cut_ok (l : Launch) (G : Gx) (sw : va_W) (r0 : Nat) (p0 : Int32) (p1 : Int32) (o : Nat) (g : Nat → Int64) (rmc : Room) (hf9 : rmc.frames + 1 ≤ 9) (hl9 : 8 + (4 + 11) + rmc.locals ≤ 330) (hrec : ∃ (i ci : Nat) (fs : List Value) (z : vw_C), sw[i]? = some (r0, .inr (ci, fs)) ∧ vwCl[ci]? = some z ∧ z.1 = RX2) (sw2 : (Nat → Nat) → va_W) (ans : Int32) (hM : MI l yX2_cut wsX2_cut rmc [.ref r0, .int p0, .int p1] G sw sw2 ans) : MI l yL_cut wsL_cut ({ frames := 9, cells := rmc.cells, slots := rmc.slots, locals := 330 } : Room) [.ref r0, .int p0, .int p1, .ref o] G (sw ++ outC G o g) (fun u => sw2 u ++ outC G o (vp_updL g 0 ans.toInt64)) 0 := by
  refine ofLI (cc := cL_cut) (maxL := 5) (ret := (some .int)) (hh := [(0, 10, 13, 21), (0, 10, 17, 13)]) (by decide) rfl (Nat.le_of_ble_eq_true rfl) (fun p e s m below meth c A ls F hr htb hH hl => ?_)
  have F : Fx G p s m _ meth c cL_cut 5 wsL_cut RL A := F
  have hx := F.1.1
  have hb := F.1.2.1
  have hl : lv_has ls 5 [(0, .ref r0), (1, .int p0), (2, .int p1), (3, .ref o)] := hl
  refine lv_aload_n hx hb dL_cut_0 rfl (lv_at hl 3 rfl) ?_
  refine lv_iconst (v := 0) hx hb dL_cut_1 (by decide) ?_
  refine lv_aload_n hx hb dL_cut_2 rfl (lv_at hl 0 rfl) ?_
  refine lv_iload_n hx hb dL_cut_3 rfl (lv_at hl 1 rfl) ?_
  refine lv_iload_n hx hb dL_cut_4 rfl (lv_at hl 2 rfl) ?_
  refine callVI (a := []) (b := (outC G o g)) (rest := [.int 0, .ref o]) F hM gL_cut_X2_cut rfl hdX2_cut ⟨hf9, hl9⟩ hH (by simp) hrec rfl hl.1 (Nat.le_of_ble_eq_true rfl) dL_cut_5 ⟨by show 0 + rmc.cells ≤ rmc.cells; omega, by show 0 + rmc.slots ≤ rmc.slots; omega⟩ rfl (fun u H locs hH => ?_)
  have hH : HH G A s (sw2 u ++ outC G o g ++ []) H locs := by rw [List.nil_append] at hH; rw [List.append_nil]; exact hH
  refine lv_i2l hx hb dL_cut_8 rfl ?_
  refine rlast F hH ((sw2 u).length + 0) (n := 1) (f := g) (mid_at (k := 0) rfl) 0 rfl (by decide) (by decide) dL_cut_9 (fun H locs hH => ?_)
  have hH : HH G A s (sw2 u ++ outC G o (vp_updL g 0 ans.toInt64)) H locs := by rw [mid_set (Nat.zero_lt_succ _), List.append_nil] at hH; exact hH
  refine lv_goto (tgt := 21) hx hb dL_cut_10 (by decide) ?_
  refine lv_iconst (v := 0) hx hb dL_cut_21 (by decide) ?_
  exact retI F hr rfl u hH rfl (by show 0 + rmc.cells ≤ rmc.cells; omega) (by show 0 + rmc.slots ≤ rmc.slots; omega) dL_cut_22

set_option maxHeartbeats 4000000 in
set_option maxRecDepth 100000 in
theorem h_cut_x1 (l : Launch) (G : Gx) (sw : va_W) (r0 : Nat) (p0 : Int32) (p1 : Int32) (o : Nat) (g : Nat → Int64) (rmc : Room) (hf9 : rmc.frames + 1 ≤ 9) (hl9 : 8 + (4 + 11) + rmc.locals ≤ 330) (hrec : ∃ (i ci : Nat) (fs : List Value) (z : vw_C), sw[i]? = some (r0, .inr (ci, fs)) ∧ vwCl[ci]? = some z ∧ z.1 = RX2) (hM : MX l yX2_cut wsX2_cut rmc [.ref r0, .int p0, .int p1] G sw "java/lang/IndexOutOfBoundsException") : MI l yL_cut wsL_cut ({ frames := 9, cells := rmc.cells, slots := rmc.slots, locals := 330 } : Room) [.ref r0, .int p0, .int p1, .ref o] G (sw ++ outC G o g) (fun u => sw ++ outC G o g) 1 := by
  refine ofLI (cc := cL_cut) (maxL := 5) (ret := (some .int)) (hh := [(0, 10, 13, 21), (0, 10, 17, 13)]) (by decide) rfl (Nat.le_of_ble_eq_true rfl) (fun p e s m below meth c A ls F hr htb hH hl => ?_)
  have F : Fx G p s m _ meth c cL_cut 5 wsL_cut RL A := F
  have hx := F.1.1
  have hb := F.1.2.1
  have hl : lv_has ls 5 [(0, .ref r0), (1, .int p0), (2, .int p1), (3, .ref o)] := hl
  refine lv_aload_n hx hb dL_cut_0 rfl (lv_at hl 3 rfl) ?_
  refine lv_iconst (v := 0) hx hb dL_cut_1 (by decide) ?_
  refine lv_aload_n hx hb dL_cut_2 rfl (lv_at hl 0 rfl) ?_
  refine lv_iload_n hx hb dL_cut_3 rfl (lv_at hl 1 rfl) ?_
  refine lv_iload_n hx hb dL_cut_4 rfl (lv_at hl 2 rfl) ?_
  refine callVX (a := []) (b := (outC G o g)) (rest := [.int 0, .ref o]) F hM gL_cut_X2_cut rfl hdX2_cut ⟨hf9, hl9⟩ hH (by simp) hrec rfl hl.1 (Nat.le_of_ble_eq_true rfl) dL_cut_5 ⟨by show 0 + rmc.cells ≤ rmc.cells; omega, by show 0 + rmc.slots ≤ rmc.slots; omega⟩ rfl (fun ce q9 H locs hH h1 h2 h3 => ?_)
  refine vx_catch (own := RL) (name := "java/lang/IndexOutOfBoundsException") (E := "java/lang/IndexOutOfBoundsException") F.1.2.2.2.1 [] ⟨0, 10, 13, 21⟩ [⟨0, 10, 17, 13⟩] (htb.trans rfl) (fun z hz => absurd hz List.not_mem_nil) rfl (by decide) (F.1.2.2.2.2 (.classLink RL 21 "java/lang/IndexOutOfBoundsException") (by decide +kernel)) (va_tabs rfl rfl (F.2.2.2.1.2.2.2.1 (.castable "java/lang/IndexOutOfBoundsException" "java/lang/IndexOutOfBoundsException") (by decide +kernel))) h1 h2 h3 ?_
  refine lv_astore (lv' := [(4, .ref q9), (0, .ref r0), (1, .int p0), (2, .int p1), (3, .ref o)]) hx hb dL_cut_13 hl (by decide) rfl (fun ls hl => ?_)
  refine lv_iconst (v := 1) hx hb dL_cut_15 (by decide) ?_
  exact retI F hr rfl (fun _ => 0) hH rfl (by show 0 + rmc.cells ≤ rmc.cells; omega) (by show 0 + rmc.slots ≤ rmc.slots; omega) dL_cut_16

set_option maxHeartbeats 4000000 in
set_option maxRecDepth 100000 in
theorem h_cut_x2 (l : Launch) (G : Gx) (sw : va_W) (r0 : Nat) (p0 : Int32) (p1 : Int32) (o : Nat) (g : Nat → Int64) (rmc : Room) (hf9 : rmc.frames + 1 ≤ 9) (hl9 : 8 + (4 + 11) + rmc.locals ≤ 330) (hrec : ∃ (i ci : Nat) (fs : List Value) (z : vw_C), sw[i]? = some (r0, .inr (ci, fs)) ∧ vwCl[ci]? = some z ∧ z.1 = RX2) (hM : MX l yX2_cut wsX2_cut rmc [.ref r0, .int p0, .int p1] G sw "java/lang/IllegalArgumentException") : MI l yL_cut wsL_cut ({ frames := 9, cells := rmc.cells, slots := rmc.slots, locals := 330 } : Room) [.ref r0, .int p0, .int p1, .ref o] G (sw ++ outC G o g) (fun u => sw ++ outC G o g) 2 := by
  refine ofLI (cc := cL_cut) (maxL := 5) (ret := (some .int)) (hh := [(0, 10, 13, 21), (0, 10, 17, 13)]) (by decide) rfl (Nat.le_of_ble_eq_true rfl) (fun p e s m below meth c A ls F hr htb hH hl => ?_)
  have F : Fx G p s m _ meth c cL_cut 5 wsL_cut RL A := F
  have hx := F.1.1
  have hb := F.1.2.1
  have hl : lv_has ls 5 [(0, .ref r0), (1, .int p0), (2, .int p1), (3, .ref o)] := hl
  refine lv_aload_n hx hb dL_cut_0 rfl (lv_at hl 3 rfl) ?_
  refine lv_iconst (v := 0) hx hb dL_cut_1 (by decide) ?_
  refine lv_aload_n hx hb dL_cut_2 rfl (lv_at hl 0 rfl) ?_
  refine lv_iload_n hx hb dL_cut_3 rfl (lv_at hl 1 rfl) ?_
  refine lv_iload_n hx hb dL_cut_4 rfl (lv_at hl 2 rfl) ?_
  refine callVX (a := []) (b := (outC G o g)) (rest := [.int 0, .ref o]) F hM gL_cut_X2_cut rfl hdX2_cut ⟨hf9, hl9⟩ hH (by simp) hrec rfl hl.1 (Nat.le_of_ble_eq_true rfl) dL_cut_5 ⟨by show 0 + rmc.cells ≤ rmc.cells; omega, by show 0 + rmc.slots ≤ rmc.slots; omega⟩ rfl (fun ce q9 H locs hH h1 h2 h3 => ?_)
  refine vx_catch (own := RL) (name := "java/lang/IllegalArgumentException") (E := "java/lang/IllegalArgumentException") F.1.2.2.2.1 [⟨0, 10, 13, 21⟩] ⟨0, 10, 17, 13⟩ [] (htb.trans rfl) ?_ rfl (by decide) (F.1.2.2.2.2 (.classLink RL 13 "java/lang/IllegalArgumentException") (by decide +kernel)) (va_tabs rfl rfl (F.2.2.2.1.2.2.2.1 (.castable "java/lang/IllegalArgumentException" "java/lang/IllegalArgumentException") (by decide +kernel))) h1 h2 h3 ?_
  · intro z hz
    have hz := List.mem_singleton.mp hz
    subst hz
    exact Or.inr ⟨by decide, "java/lang/IndexOutOfBoundsException", F.1.2.2.2.2 (.classLink RL 21 "java/lang/IndexOutOfBoundsException") (by decide +kernel), F.2.2.2.1.2.2.2.2 ("java/lang/IllegalArgumentException", "java/lang/IndexOutOfBoundsException") (by decide)⟩
  refine lv_astore (lv' := [(4, .ref q9), (0, .ref r0), (1, .int p0), (2, .int p1), (3, .ref o)]) hx hb dL_cut_17 hl (by decide) rfl (fun ls hl => ?_)
  refine lv_iconst (v := 2) hx hb dL_cut_19 (by decide) ?_
  exact retI F hr rfl (fun _ => 0) hH rfl (by show 0 + rmc.cells ≤ rmc.cells; omega) (by show 0 + rmc.slots ≤ rmc.slots; omega) dL_cut_20

set_option maxHeartbeats 4000000 in
set_option maxRecDepth 100000 in
theorem h_isFilled_ok (l : Launch) (G : Gx) (sw : va_W) (r0 : Nat) (p0 : Int32) (p1 : Int32) (o : Nat) (g : Nat → Int64) (rmc : Room) (hf9 : rmc.frames + 1 ≤ 9) (hl9 : 8 + (4 + 11) + rmc.locals ≤ 330) (hrec : ∃ (i ci : Nat) (fs : List Value) (z : vw_C), sw[i]? = some (r0, .inr (ci, fs)) ∧ vwCl[ci]? = some z ∧ z.1 = RX2) (sw2 : (Nat → Nat) → va_W) (ans : Int32) (hM : MI l yX2_isFilled wsX2_isFilled rmc [.ref r0, .int p0, .int p1] G sw sw2 ans) : MI l yL_isFilled wsL_isFilled ({ frames := 9, cells := rmc.cells, slots := rmc.slots, locals := 330 } : Room) [.ref r0, .int p0, .int p1, .ref o] G (sw ++ outC G o g) (fun u => sw2 u ++ outC G o (vp_updL g 0 (if ans = 0 then 0 else 1))) 0 := by
  refine ofLI (cc := cL_isFilled) (maxL := 5) (ret := (some .int)) (hh := [(0, 17, 20, 21), (0, 17, 24, 13)]) (by decide) rfl (Nat.le_of_ble_eq_true rfl) (fun p e s m below meth c A ls F hr htb hH hl => ?_)
  have F : Fx G p s m _ meth c cL_isFilled 5 wsL_isFilled RL A := F
  have hx := F.1.1
  have hb := F.1.2.1
  have hl : lv_has ls 5 [(0, .ref r0), (1, .int p0), (2, .int p1), (3, .ref o)] := hl
  refine lv_aload_n hx hb dL_isFilled_0 rfl (lv_at hl 3 rfl) ?_
  refine lv_iconst (v := 0) hx hb dL_isFilled_1 (by decide) ?_
  refine lv_aload_n hx hb dL_isFilled_2 rfl (lv_at hl 0 rfl) ?_
  refine lv_iload_n hx hb dL_isFilled_3 rfl (lv_at hl 1 rfl) ?_
  refine lv_iload_n hx hb dL_isFilled_4 rfl (lv_at hl 2 rfl) ?_
  refine callVI (a := []) (b := (outC G o g)) (rest := [.int 0, .ref o]) F hM gL_isFilled_X2_isFilled rfl hdX2_isFilled ⟨hf9, hl9⟩ hH (by simp) hrec rfl hl.1 (Nat.le_of_ble_eq_true rfl) dL_isFilled_5 ⟨by show 0 + rmc.cells ≤ rmc.cells; omega, by show 0 + rmc.slots ≤ rmc.slots; omega⟩ rfl (fun u H locs hH => ?_)
  have hH : HH G A s (sw2 u ++ outC G o g ++ []) H locs := by rw [List.nil_append] at hH; rw [List.append_nil]; exact hH
  refine lv_if_eq (tgt := 15) hx hb dL_isFilled_8 (by decide) (fun c_8 => ?_) (fun c_8 => ?_)
  · refine lv_lconst (v := 0) hx hb dL_isFilled_15 (by decide) ?_
    refine rlast F hH ((sw2 u).length + 0) (n := 1) (f := g) (mid_at (k := 0) rfl) 0 rfl (by decide) (by decide) dL_isFilled_16 (fun H locs hH => ?_)
    have hH : HH G A s (sw2 u ++ outC G o (vp_updL g 0 0)) H locs := by rw [mid_set (Nat.zero_lt_succ _), List.append_nil] at hH; exact hH
    have hH : HH G A s (sw2 u ++ outC G o (vp_updL g 0 (if ans = 0 then 0 else 1))) H locs := by rw [if_pos c_8]; exact hH
    refine lv_goto (tgt := 28) hx hb dL_isFilled_17 (by decide) ?_
    refine lv_iconst (v := 0) hx hb dL_isFilled_28 (by decide) ?_
    exact retI F hr rfl u hH rfl (by show 0 + rmc.cells ≤ rmc.cells; omega) (by show 0 + rmc.slots ≤ rmc.slots; omega) dL_isFilled_29
  · refine lv_lconst (v := 1) hx hb dL_isFilled_11 (by decide) ?_
    refine lv_goto (tgt := 16) hx hb dL_isFilled_12 (by decide) ?_
    refine rlast F hH ((sw2 u).length + 0) (n := 1) (f := g) (mid_at (k := 0) rfl) 0 rfl (by decide) (by decide) dL_isFilled_16 (fun H locs hH => ?_)
    have hH : HH G A s (sw2 u ++ outC G o (vp_updL g 0 1)) H locs := by rw [mid_set (Nat.zero_lt_succ _), List.append_nil] at hH; exact hH
    have hH : HH G A s (sw2 u ++ outC G o (vp_updL g 0 (if ans = 0 then 0 else 1))) H locs := by rw [if_neg c_8]; exact hH
    refine lv_goto (tgt := 28) hx hb dL_isFilled_17 (by decide) ?_
    refine lv_iconst (v := 0) hx hb dL_isFilled_28 (by decide) ?_
    exact retI F hr rfl u hH rfl (by show 0 + rmc.cells ≤ rmc.cells; omega) (by show 0 + rmc.slots ≤ rmc.slots; omega) dL_isFilled_29

set_option maxHeartbeats 4000000 in
set_option maxRecDepth 100000 in
theorem h_isFilled_x1 (l : Launch) (G : Gx) (sw : va_W) (r0 : Nat) (p0 : Int32) (p1 : Int32) (o : Nat) (g : Nat → Int64) (rmc : Room) (hf9 : rmc.frames + 1 ≤ 9) (hl9 : 8 + (4 + 11) + rmc.locals ≤ 330) (hrec : ∃ (i ci : Nat) (fs : List Value) (z : vw_C), sw[i]? = some (r0, .inr (ci, fs)) ∧ vwCl[ci]? = some z ∧ z.1 = RX2) (hM : MX l yX2_isFilled wsX2_isFilled rmc [.ref r0, .int p0, .int p1] G sw "java/lang/IndexOutOfBoundsException") : MI l yL_isFilled wsL_isFilled ({ frames := 9, cells := rmc.cells, slots := rmc.slots, locals := 330 } : Room) [.ref r0, .int p0, .int p1, .ref o] G (sw ++ outC G o g) (fun u => sw ++ outC G o g) 1 := by
  refine ofLI (cc := cL_isFilled) (maxL := 5) (ret := (some .int)) (hh := [(0, 17, 20, 21), (0, 17, 24, 13)]) (by decide) rfl (Nat.le_of_ble_eq_true rfl) (fun p e s m below meth c A ls F hr htb hH hl => ?_)
  have F : Fx G p s m _ meth c cL_isFilled 5 wsL_isFilled RL A := F
  have hx := F.1.1
  have hb := F.1.2.1
  have hl : lv_has ls 5 [(0, .ref r0), (1, .int p0), (2, .int p1), (3, .ref o)] := hl
  refine lv_aload_n hx hb dL_isFilled_0 rfl (lv_at hl 3 rfl) ?_
  refine lv_iconst (v := 0) hx hb dL_isFilled_1 (by decide) ?_
  refine lv_aload_n hx hb dL_isFilled_2 rfl (lv_at hl 0 rfl) ?_
  refine lv_iload_n hx hb dL_isFilled_3 rfl (lv_at hl 1 rfl) ?_
  refine lv_iload_n hx hb dL_isFilled_4 rfl (lv_at hl 2 rfl) ?_
  refine callVX (a := []) (b := (outC G o g)) (rest := [.int 0, .ref o]) F hM gL_isFilled_X2_isFilled rfl hdX2_isFilled ⟨hf9, hl9⟩ hH (by simp) hrec rfl hl.1 (Nat.le_of_ble_eq_true rfl) dL_isFilled_5 ⟨by show 0 + rmc.cells ≤ rmc.cells; omega, by show 0 + rmc.slots ≤ rmc.slots; omega⟩ rfl (fun ce q9 H locs hH h1 h2 h3 => ?_)
  refine vx_catch (own := RL) (name := "java/lang/IndexOutOfBoundsException") (E := "java/lang/IndexOutOfBoundsException") F.1.2.2.2.1 [] ⟨0, 17, 20, 21⟩ [⟨0, 17, 24, 13⟩] (htb.trans rfl) (fun z hz => absurd hz List.not_mem_nil) rfl (by decide) (F.1.2.2.2.2 (.classLink RL 21 "java/lang/IndexOutOfBoundsException") (by decide +kernel)) (va_tabs rfl rfl (F.2.2.2.1.2.2.2.1 (.castable "java/lang/IndexOutOfBoundsException" "java/lang/IndexOutOfBoundsException") (by decide +kernel))) h1 h2 h3 ?_
  refine lv_astore (lv' := [(4, .ref q9), (0, .ref r0), (1, .int p0), (2, .int p1), (3, .ref o)]) hx hb dL_isFilled_20 hl (by decide) rfl (fun ls hl => ?_)
  refine lv_iconst (v := 1) hx hb dL_isFilled_22 (by decide) ?_
  exact retI F hr rfl (fun _ => 0) hH rfl (by show 0 + rmc.cells ≤ rmc.cells; omega) (by show 0 + rmc.slots ≤ rmc.slots; omega) dL_isFilled_23

set_option maxHeartbeats 4000000 in
set_option maxRecDepth 100000 in
theorem h_isFilled_x2 (l : Launch) (G : Gx) (sw : va_W) (r0 : Nat) (p0 : Int32) (p1 : Int32) (o : Nat) (g : Nat → Int64) (rmc : Room) (hf9 : rmc.frames + 1 ≤ 9) (hl9 : 8 + (4 + 11) + rmc.locals ≤ 330) (hrec : ∃ (i ci : Nat) (fs : List Value) (z : vw_C), sw[i]? = some (r0, .inr (ci, fs)) ∧ vwCl[ci]? = some z ∧ z.1 = RX2) (hM : MX l yX2_isFilled wsX2_isFilled rmc [.ref r0, .int p0, .int p1] G sw "java/lang/IllegalArgumentException") : MI l yL_isFilled wsL_isFilled ({ frames := 9, cells := rmc.cells, slots := rmc.slots, locals := 330 } : Room) [.ref r0, .int p0, .int p1, .ref o] G (sw ++ outC G o g) (fun u => sw ++ outC G o g) 2 := by
  refine ofLI (cc := cL_isFilled) (maxL := 5) (ret := (some .int)) (hh := [(0, 17, 20, 21), (0, 17, 24, 13)]) (by decide) rfl (Nat.le_of_ble_eq_true rfl) (fun p e s m below meth c A ls F hr htb hH hl => ?_)
  have F : Fx G p s m _ meth c cL_isFilled 5 wsL_isFilled RL A := F
  have hx := F.1.1
  have hb := F.1.2.1
  have hl : lv_has ls 5 [(0, .ref r0), (1, .int p0), (2, .int p1), (3, .ref o)] := hl
  refine lv_aload_n hx hb dL_isFilled_0 rfl (lv_at hl 3 rfl) ?_
  refine lv_iconst (v := 0) hx hb dL_isFilled_1 (by decide) ?_
  refine lv_aload_n hx hb dL_isFilled_2 rfl (lv_at hl 0 rfl) ?_
  refine lv_iload_n hx hb dL_isFilled_3 rfl (lv_at hl 1 rfl) ?_
  refine lv_iload_n hx hb dL_isFilled_4 rfl (lv_at hl 2 rfl) ?_
  refine callVX (a := []) (b := (outC G o g)) (rest := [.int 0, .ref o]) F hM gL_isFilled_X2_isFilled rfl hdX2_isFilled ⟨hf9, hl9⟩ hH (by simp) hrec rfl hl.1 (Nat.le_of_ble_eq_true rfl) dL_isFilled_5 ⟨by show 0 + rmc.cells ≤ rmc.cells; omega, by show 0 + rmc.slots ≤ rmc.slots; omega⟩ rfl (fun ce q9 H locs hH h1 h2 h3 => ?_)
  refine vx_catch (own := RL) (name := "java/lang/IllegalArgumentException") (E := "java/lang/IllegalArgumentException") F.1.2.2.2.1 [⟨0, 17, 20, 21⟩] ⟨0, 17, 24, 13⟩ [] (htb.trans rfl) ?_ rfl (by decide) (F.1.2.2.2.2 (.classLink RL 13 "java/lang/IllegalArgumentException") (by decide +kernel)) (va_tabs rfl rfl (F.2.2.2.1.2.2.2.1 (.castable "java/lang/IllegalArgumentException" "java/lang/IllegalArgumentException") (by decide +kernel))) h1 h2 h3 ?_
  · intro z hz
    have hz := List.mem_singleton.mp hz
    subst hz
    exact Or.inr ⟨by decide, "java/lang/IndexOutOfBoundsException", F.1.2.2.2.2 (.classLink RL 21 "java/lang/IndexOutOfBoundsException") (by decide +kernel), F.2.2.2.1.2.2.2.2 ("java/lang/IllegalArgumentException", "java/lang/IndexOutOfBoundsException") (by decide)⟩
  refine lv_astore (lv' := [(4, .ref q9), (0, .ref r0), (1, .int p0), (2, .int p1), (3, .ref o)]) hx hb dL_isFilled_24 hl (by decide) rfl (fun ls hl => ?_)
  refine lv_iconst (v := 2) hx hb dL_isFilled_26 (by decide) ?_
  exact retI F hr rfl (fun _ => 0) hH rfl (by show 0 + rmc.cells ≤ rmc.cells; omega) (by show 0 + rmc.slots ≤ rmc.slots; omega) dL_isFilled_27

set_option maxHeartbeats 4000000 in
set_option maxRecDepth 100000 in
theorem h_pass_ok (l : Launch) (G : Gx) (sw : va_W) (r0 : Nat) (p0 : Int32) (o : Nat) (g : Nat → Int64) (rmc : Room) (hf9 : rmc.frames + 1 ≤ 9) (hl9 : 8 + (4 + 11) + rmc.locals ≤ 330) (hrec : ∃ (i ci : Nat) (fs : List Value) (z : vw_C), sw[i]? = some (r0, .inr (ci, fs)) ∧ vwCl[ci]? = some z ∧ z.1 = RX2) (sw2 : (Nat → Nat) → va_W) (ans : Int32) (hM : MI l yX2_pass wsX2_pass rmc [.ref r0, .int p0] G sw sw2 ans) : MI l yL_pass wsL_pass ({ frames := 9, cells := rmc.cells, slots := rmc.slots, locals := 330 } : Room) [.ref r0, .int p0, .ref o] G (sw ++ outC G o g) (fun u => sw2 u ++ outC G o (vp_updL g 0 ans.toInt64)) 0 := by
  refine ofLI (cc := cL_pass) (maxL := 4) (ret := (some .int)) (hh := [(0, 9, 12, 13), (0, 9, 15, 15)]) (by decide) rfl (Nat.le_of_ble_eq_true rfl) (fun p e s m below meth c A ls F hr htb hH hl => ?_)
  have F : Fx G p s m _ meth c cL_pass 4 wsL_pass RL A := F
  have hx := F.1.1
  have hb := F.1.2.1
  have hl : lv_has ls 4 [(0, .ref r0), (1, .int p0), (2, .ref o)] := hl
  refine lv_aload_n hx hb dL_pass_0 rfl (lv_at hl 2 rfl) ?_
  refine lv_iconst (v := 0) hx hb dL_pass_1 (by decide) ?_
  refine lv_aload_n hx hb dL_pass_2 rfl (lv_at hl 0 rfl) ?_
  refine lv_iload_n hx hb dL_pass_3 rfl (lv_at hl 1 rfl) ?_
  refine callVI (a := []) (b := (outC G o g)) (rest := [.int 0, .ref o]) F hM gL_pass_X2_pass rfl hdX2_pass ⟨hf9, hl9⟩ hH (by simp) hrec rfl hl.1 (Nat.le_of_ble_eq_true rfl) dL_pass_4 ⟨by show 0 + rmc.cells ≤ rmc.cells; omega, by show 0 + rmc.slots ≤ rmc.slots; omega⟩ rfl (fun u H locs hH => ?_)
  have hH : HH G A s (sw2 u ++ outC G o g ++ []) H locs := by rw [List.nil_append] at hH; rw [List.append_nil]; exact hH
  refine lv_i2l hx hb dL_pass_7 rfl ?_
  refine rlast F hH ((sw2 u).length + 0) (n := 1) (f := g) (mid_at (k := 0) rfl) 0 rfl (by decide) (by decide) dL_pass_8 (fun H locs hH => ?_)
  have hH : HH G A s (sw2 u ++ outC G o (vp_updL g 0 ans.toInt64)) H locs := by rw [mid_set (Nat.zero_lt_succ _), List.append_nil] at hH; exact hH
  refine lv_goto (tgt := 18) hx hb dL_pass_9 (by decide) ?_
  refine lv_iconst (v := 0) hx hb dL_pass_18 (by decide) ?_
  exact retI F hr rfl u hH rfl (by show 0 + rmc.cells ≤ rmc.cells; omega) (by show 0 + rmc.slots ≤ rmc.slots; omega) dL_pass_19

set_option maxHeartbeats 4000000 in
set_option maxRecDepth 100000 in
theorem h_pass_x1 (l : Launch) (G : Gx) (sw : va_W) (r0 : Nat) (p0 : Int32) (o : Nat) (g : Nat → Int64) (rmc : Room) (hf9 : rmc.frames + 1 ≤ 9) (hl9 : 8 + (4 + 11) + rmc.locals ≤ 330) (hrec : ∃ (i ci : Nat) (fs : List Value) (z : vw_C), sw[i]? = some (r0, .inr (ci, fs)) ∧ vwCl[ci]? = some z ∧ z.1 = RX2) (hM : MX l yX2_pass wsX2_pass rmc [.ref r0, .int p0] G sw "java/lang/IllegalArgumentException") : MI l yL_pass wsL_pass ({ frames := 9, cells := rmc.cells, slots := rmc.slots, locals := 330 } : Room) [.ref r0, .int p0, .ref o] G (sw ++ outC G o g) (fun u => sw ++ outC G o g) 1 := by
  refine ofLI (cc := cL_pass) (maxL := 4) (ret := (some .int)) (hh := [(0, 9, 12, 13), (0, 9, 15, 15)]) (by decide) rfl (Nat.le_of_ble_eq_true rfl) (fun p e s m below meth c A ls F hr htb hH hl => ?_)
  have F : Fx G p s m _ meth c cL_pass 4 wsL_pass RL A := F
  have hx := F.1.1
  have hb := F.1.2.1
  have hl : lv_has ls 4 [(0, .ref r0), (1, .int p0), (2, .ref o)] := hl
  refine lv_aload_n hx hb dL_pass_0 rfl (lv_at hl 2 rfl) ?_
  refine lv_iconst (v := 0) hx hb dL_pass_1 (by decide) ?_
  refine lv_aload_n hx hb dL_pass_2 rfl (lv_at hl 0 rfl) ?_
  refine lv_iload_n hx hb dL_pass_3 rfl (lv_at hl 1 rfl) ?_
  refine callVX (a := []) (b := (outC G o g)) (rest := [.int 0, .ref o]) F hM gL_pass_X2_pass rfl hdX2_pass ⟨hf9, hl9⟩ hH (by simp) hrec rfl hl.1 (Nat.le_of_ble_eq_true rfl) dL_pass_4 ⟨by show 0 + rmc.cells ≤ rmc.cells; omega, by show 0 + rmc.slots ≤ rmc.slots; omega⟩ rfl (fun ce q9 H locs hH h1 h2 h3 => ?_)
  refine vx_catch (own := RL) (name := "java/lang/IllegalArgumentException") (E := "java/lang/IllegalArgumentException") F.1.2.2.2.1 [] ⟨0, 9, 12, 13⟩ [⟨0, 9, 15, 15⟩] (htb.trans rfl) (fun z hz => absurd hz List.not_mem_nil) rfl (by decide) (F.1.2.2.2.2 (.classLink RL 13 "java/lang/IllegalArgumentException") (by decide +kernel)) (va_tabs rfl rfl (F.2.2.2.1.2.2.2.1 (.castable "java/lang/IllegalArgumentException" "java/lang/IllegalArgumentException") (by decide +kernel))) h1 h2 h3 ?_
  refine lv_astore_n (lv' := [(3, .ref q9), (0, .ref r0), (1, .int p0), (2, .ref o)]) hx hb dL_pass_12 rfl hl (by decide) rfl (fun ls hl => ?_)
  refine lv_iconst (v := 1) hx hb dL_pass_13 (by decide) ?_
  exact retI F hr rfl (fun _ => 0) hH rfl (by show 0 + rmc.cells ≤ rmc.cells; omega) (by show 0 + rmc.slots ≤ rmc.slots; omega) dL_pass_14

set_option maxHeartbeats 4000000 in
set_option maxRecDepth 100000 in
theorem h_pass_x2 (l : Launch) (G : Gx) (sw : va_W) (r0 : Nat) (p0 : Int32) (o : Nat) (g : Nat → Int64) (rmc : Room) (hf9 : rmc.frames + 1 ≤ 9) (hl9 : 8 + (4 + 11) + rmc.locals ≤ 330) (hrec : ∃ (i ci : Nat) (fs : List Value) (z : vw_C), sw[i]? = some (r0, .inr (ci, fs)) ∧ vwCl[ci]? = some z ∧ z.1 = RX2) (hM : MX l yX2_pass wsX2_pass rmc [.ref r0, .int p0] G sw "java/lang/IllegalStateException") : MI l yL_pass wsL_pass ({ frames := 9, cells := rmc.cells, slots := rmc.slots, locals := 330 } : Room) [.ref r0, .int p0, .ref o] G (sw ++ outC G o g) (fun u => sw ++ outC G o g) 2 := by
  refine ofLI (cc := cL_pass) (maxL := 4) (ret := (some .int)) (hh := [(0, 9, 12, 13), (0, 9, 15, 15)]) (by decide) rfl (Nat.le_of_ble_eq_true rfl) (fun p e s m below meth c A ls F hr htb hH hl => ?_)
  have F : Fx G p s m _ meth c cL_pass 4 wsL_pass RL A := F
  have hx := F.1.1
  have hb := F.1.2.1
  have hl : lv_has ls 4 [(0, .ref r0), (1, .int p0), (2, .ref o)] := hl
  refine lv_aload_n hx hb dL_pass_0 rfl (lv_at hl 2 rfl) ?_
  refine lv_iconst (v := 0) hx hb dL_pass_1 (by decide) ?_
  refine lv_aload_n hx hb dL_pass_2 rfl (lv_at hl 0 rfl) ?_
  refine lv_iload_n hx hb dL_pass_3 rfl (lv_at hl 1 rfl) ?_
  refine callVX (a := []) (b := (outC G o g)) (rest := [.int 0, .ref o]) F hM gL_pass_X2_pass rfl hdX2_pass ⟨hf9, hl9⟩ hH (by simp) hrec rfl hl.1 (Nat.le_of_ble_eq_true rfl) dL_pass_4 ⟨by show 0 + rmc.cells ≤ rmc.cells; omega, by show 0 + rmc.slots ≤ rmc.slots; omega⟩ rfl (fun ce q9 H locs hH h1 h2 h3 => ?_)
  refine vx_catch (own := RL) (name := "java/lang/IllegalStateException") (E := "java/lang/IllegalStateException") F.1.2.2.2.1 [⟨0, 9, 12, 13⟩] ⟨0, 9, 15, 15⟩ [] (htb.trans rfl) ?_ rfl (by decide) (F.1.2.2.2.2 (.classLink RL 15 "java/lang/IllegalStateException") (by decide +kernel)) (va_tabs rfl rfl (F.2.2.2.1.2.2.2.1 (.castable "java/lang/IllegalStateException" "java/lang/IllegalStateException") (by decide +kernel))) h1 h2 h3 ?_
  · intro z hz
    have hz := List.mem_singleton.mp hz
    subst hz
    exact Or.inr ⟨by decide, "java/lang/IllegalArgumentException", F.1.2.2.2.2 (.classLink RL 13 "java/lang/IllegalArgumentException") (by decide +kernel), F.2.2.2.1.2.2.2.2 ("java/lang/IllegalStateException", "java/lang/IllegalArgumentException") (by decide)⟩
  refine lv_astore_n (lv' := [(3, .ref q9), (0, .ref r0), (1, .int p0), (2, .ref o)]) hx hb dL_pass_15 rfl hl (by decide) rfl (fun ls hl => ?_)
  refine lv_iconst (v := 2) hx hb dL_pass_16 (by decide) ?_
  exact retI F hr rfl (fun _ => 0) hH rfl (by show 0 + rmc.cells ≤ rmc.cells; omega) (by show 0 + rmc.slots ≤ rmc.slots; omega) dL_pass_17

set_option maxHeartbeats 4000000 in
set_option maxRecDepth 100000 in
theorem h_paid_ok (l : Launch) (G : Gx) (sw : va_W) (r0 : Nat) (p0 : Int32) (p1 : Int32) (o : Nat) (g : Nat → Int64) (rmc : Room) (hf9 : rmc.frames + 1 ≤ 9) (hl9 : 8 + (4 + 11) + rmc.locals ≤ 330) (hrec : ∃ (i ci : Nat) (fs : List Value) (z : vw_C), sw[i]? = some (r0, .inr (ci, fs)) ∧ vwCl[ci]? = some z ∧ z.1 = RX2) (sw2 : (Nat → Nat) → va_W) (ans : Int32) (hM : MI l yX2_paid wsX2_paid rmc [.ref r0, .int p0, .int p1] G sw sw2 ans) : MI l yL_paid wsL_paid ({ frames := 9, cells := rmc.cells, slots := rmc.slots, locals := 330 } : Room) [.ref r0, .int p0, .int p1, .ref o] G (sw ++ outC G o g) (fun u => sw2 u ++ outC G o (vp_updL g 0 ans.toInt64)) 0 := by
  refine ofLI (cc := cL_paid) (maxL := 5) (ret := (some .int)) (hh := [(0, 10, 13, 21), (0, 10, 17, 13)]) (by decide) rfl (Nat.le_of_ble_eq_true rfl) (fun p e s m below meth c A ls F hr htb hH hl => ?_)
  have F : Fx G p s m _ meth c cL_paid 5 wsL_paid RL A := F
  have hx := F.1.1
  have hb := F.1.2.1
  have hl : lv_has ls 5 [(0, .ref r0), (1, .int p0), (2, .int p1), (3, .ref o)] := hl
  refine lv_aload_n hx hb dL_paid_0 rfl (lv_at hl 3 rfl) ?_
  refine lv_iconst (v := 0) hx hb dL_paid_1 (by decide) ?_
  refine lv_aload_n hx hb dL_paid_2 rfl (lv_at hl 0 rfl) ?_
  refine lv_iload_n hx hb dL_paid_3 rfl (lv_at hl 1 rfl) ?_
  refine lv_iload_n hx hb dL_paid_4 rfl (lv_at hl 2 rfl) ?_
  refine callVI (a := []) (b := (outC G o g)) (rest := [.int 0, .ref o]) F hM gL_paid_X2_paid rfl hdX2_paid ⟨hf9, hl9⟩ hH (by simp) hrec rfl hl.1 (Nat.le_of_ble_eq_true rfl) dL_paid_5 ⟨by show 0 + rmc.cells ≤ rmc.cells; omega, by show 0 + rmc.slots ≤ rmc.slots; omega⟩ rfl (fun u H locs hH => ?_)
  have hH : HH G A s (sw2 u ++ outC G o g ++ []) H locs := by rw [List.nil_append] at hH; rw [List.append_nil]; exact hH
  refine lv_i2l hx hb dL_paid_8 rfl ?_
  refine rlast F hH ((sw2 u).length + 0) (n := 1) (f := g) (mid_at (k := 0) rfl) 0 rfl (by decide) (by decide) dL_paid_9 (fun H locs hH => ?_)
  have hH : HH G A s (sw2 u ++ outC G o (vp_updL g 0 ans.toInt64)) H locs := by rw [mid_set (Nat.zero_lt_succ _), List.append_nil] at hH; exact hH
  refine lv_goto (tgt := 21) hx hb dL_paid_10 (by decide) ?_
  refine lv_iconst (v := 0) hx hb dL_paid_21 (by decide) ?_
  exact retI F hr rfl u hH rfl (by show 0 + rmc.cells ≤ rmc.cells; omega) (by show 0 + rmc.slots ≤ rmc.slots; omega) dL_paid_22

set_option maxHeartbeats 4000000 in
set_option maxRecDepth 100000 in
theorem h_paid_x1 (l : Launch) (G : Gx) (sw : va_W) (r0 : Nat) (p0 : Int32) (p1 : Int32) (o : Nat) (g : Nat → Int64) (rmc : Room) (hf9 : rmc.frames + 1 ≤ 9) (hl9 : 8 + (4 + 11) + rmc.locals ≤ 330) (hrec : ∃ (i ci : Nat) (fs : List Value) (z : vw_C), sw[i]? = some (r0, .inr (ci, fs)) ∧ vwCl[ci]? = some z ∧ z.1 = RX2) (hM : MX l yX2_paid wsX2_paid rmc [.ref r0, .int p0, .int p1] G sw "java/lang/IndexOutOfBoundsException") : MI l yL_paid wsL_paid ({ frames := 9, cells := rmc.cells, slots := rmc.slots, locals := 330 } : Room) [.ref r0, .int p0, .int p1, .ref o] G (sw ++ outC G o g) (fun u => sw ++ outC G o g) 1 := by
  refine ofLI (cc := cL_paid) (maxL := 5) (ret := (some .int)) (hh := [(0, 10, 13, 21), (0, 10, 17, 13)]) (by decide) rfl (Nat.le_of_ble_eq_true rfl) (fun p e s m below meth c A ls F hr htb hH hl => ?_)
  have F : Fx G p s m _ meth c cL_paid 5 wsL_paid RL A := F
  have hx := F.1.1
  have hb := F.1.2.1
  have hl : lv_has ls 5 [(0, .ref r0), (1, .int p0), (2, .int p1), (3, .ref o)] := hl
  refine lv_aload_n hx hb dL_paid_0 rfl (lv_at hl 3 rfl) ?_
  refine lv_iconst (v := 0) hx hb dL_paid_1 (by decide) ?_
  refine lv_aload_n hx hb dL_paid_2 rfl (lv_at hl 0 rfl) ?_
  refine lv_iload_n hx hb dL_paid_3 rfl (lv_at hl 1 rfl) ?_
  refine lv_iload_n hx hb dL_paid_4 rfl (lv_at hl 2 rfl) ?_
  refine callVX (a := []) (b := (outC G o g)) (rest := [.int 0, .ref o]) F hM gL_paid_X2_paid rfl hdX2_paid ⟨hf9, hl9⟩ hH (by simp) hrec rfl hl.1 (Nat.le_of_ble_eq_true rfl) dL_paid_5 ⟨by show 0 + rmc.cells ≤ rmc.cells; omega, by show 0 + rmc.slots ≤ rmc.slots; omega⟩ rfl (fun ce q9 H locs hH h1 h2 h3 => ?_)
  refine vx_catch (own := RL) (name := "java/lang/IndexOutOfBoundsException") (E := "java/lang/IndexOutOfBoundsException") F.1.2.2.2.1 [] ⟨0, 10, 13, 21⟩ [⟨0, 10, 17, 13⟩] (htb.trans rfl) (fun z hz => absurd hz List.not_mem_nil) rfl (by decide) (F.1.2.2.2.2 (.classLink RL 21 "java/lang/IndexOutOfBoundsException") (by decide +kernel)) (va_tabs rfl rfl (F.2.2.2.1.2.2.2.1 (.castable "java/lang/IndexOutOfBoundsException" "java/lang/IndexOutOfBoundsException") (by decide +kernel))) h1 h2 h3 ?_
  refine lv_astore (lv' := [(4, .ref q9), (0, .ref r0), (1, .int p0), (2, .int p1), (3, .ref o)]) hx hb dL_paid_13 hl (by decide) rfl (fun ls hl => ?_)
  refine lv_iconst (v := 1) hx hb dL_paid_15 (by decide) ?_
  exact retI F hr rfl (fun _ => 0) hH rfl (by show 0 + rmc.cells ≤ rmc.cells; omega) (by show 0 + rmc.slots ≤ rmc.slots; omega) dL_paid_16

set_option maxHeartbeats 4000000 in
set_option maxRecDepth 100000 in
theorem h_paid_x2 (l : Launch) (G : Gx) (sw : va_W) (r0 : Nat) (p0 : Int32) (p1 : Int32) (o : Nat) (g : Nat → Int64) (rmc : Room) (hf9 : rmc.frames + 1 ≤ 9) (hl9 : 8 + (4 + 11) + rmc.locals ≤ 330) (hrec : ∃ (i ci : Nat) (fs : List Value) (z : vw_C), sw[i]? = some (r0, .inr (ci, fs)) ∧ vwCl[ci]? = some z ∧ z.1 = RX2) (hM : MX l yX2_paid wsX2_paid rmc [.ref r0, .int p0, .int p1] G sw "java/lang/IllegalArgumentException") : MI l yL_paid wsL_paid ({ frames := 9, cells := rmc.cells, slots := rmc.slots, locals := 330 } : Room) [.ref r0, .int p0, .int p1, .ref o] G (sw ++ outC G o g) (fun u => sw ++ outC G o g) 2 := by
  refine ofLI (cc := cL_paid) (maxL := 5) (ret := (some .int)) (hh := [(0, 10, 13, 21), (0, 10, 17, 13)]) (by decide) rfl (Nat.le_of_ble_eq_true rfl) (fun p e s m below meth c A ls F hr htb hH hl => ?_)
  have F : Fx G p s m _ meth c cL_paid 5 wsL_paid RL A := F
  have hx := F.1.1
  have hb := F.1.2.1
  have hl : lv_has ls 5 [(0, .ref r0), (1, .int p0), (2, .int p1), (3, .ref o)] := hl
  refine lv_aload_n hx hb dL_paid_0 rfl (lv_at hl 3 rfl) ?_
  refine lv_iconst (v := 0) hx hb dL_paid_1 (by decide) ?_
  refine lv_aload_n hx hb dL_paid_2 rfl (lv_at hl 0 rfl) ?_
  refine lv_iload_n hx hb dL_paid_3 rfl (lv_at hl 1 rfl) ?_
  refine lv_iload_n hx hb dL_paid_4 rfl (lv_at hl 2 rfl) ?_
  refine callVX (a := []) (b := (outC G o g)) (rest := [.int 0, .ref o]) F hM gL_paid_X2_paid rfl hdX2_paid ⟨hf9, hl9⟩ hH (by simp) hrec rfl hl.1 (Nat.le_of_ble_eq_true rfl) dL_paid_5 ⟨by show 0 + rmc.cells ≤ rmc.cells; omega, by show 0 + rmc.slots ≤ rmc.slots; omega⟩ rfl (fun ce q9 H locs hH h1 h2 h3 => ?_)
  refine vx_catch (own := RL) (name := "java/lang/IllegalArgumentException") (E := "java/lang/IllegalArgumentException") F.1.2.2.2.1 [⟨0, 10, 13, 21⟩] ⟨0, 10, 17, 13⟩ [] (htb.trans rfl) ?_ rfl (by decide) (F.1.2.2.2.2 (.classLink RL 13 "java/lang/IllegalArgumentException") (by decide +kernel)) (va_tabs rfl rfl (F.2.2.2.1.2.2.2.1 (.castable "java/lang/IllegalArgumentException" "java/lang/IllegalArgumentException") (by decide +kernel))) h1 h2 h3 ?_
  · intro z hz
    have hz := List.mem_singleton.mp hz
    subst hz
    exact Or.inr ⟨by decide, "java/lang/IndexOutOfBoundsException", F.1.2.2.2.2 (.classLink RL 21 "java/lang/IndexOutOfBoundsException") (by decide +kernel), F.2.2.2.1.2.2.2.2 ("java/lang/IllegalArgumentException", "java/lang/IndexOutOfBoundsException") (by decide)⟩
  refine lv_astore (lv' := [(4, .ref q9), (0, .ref r0), (1, .int p0), (2, .int p1), (3, .ref o)]) hx hb dL_paid_17 hl (by decide) rfl (fun ls hl => ?_)
  refine lv_iconst (v := 2) hx hb dL_paid_19 (by decide) ?_
  exact retI F hr rfl (fun _ => 0) hH rfl (by show 0 + rmc.cells ≤ rmc.cells; omega) (by show 0 + rmc.slots ≤ rmc.slots; omega) dL_paid_20

set_option maxHeartbeats 4000000 in
set_option maxRecDepth 100000 in
theorem h_madeUp_ok (l : Launch) (G : Gx) (sw : va_W) (r0 : Nat) (p0 : Int32) (p1 : Int32) (o : Nat) (g : Nat → Int64) (rmc : Room) (hf9 : rmc.frames + 1 ≤ 9) (hl9 : 8 + (4 + 11) + rmc.locals ≤ 330) (hrec : ∃ (i ci : Nat) (fs : List Value) (z : vw_C), sw[i]? = some (r0, .inr (ci, fs)) ∧ vwCl[ci]? = some z ∧ z.1 = RX2) (sw2 : (Nat → Nat) → va_W) (ans : Int32) (hM : MI l yX2_madeUp wsX2_madeUp rmc [.ref r0, .int p0, .int p1] G sw sw2 ans) : MI l yL_madeUp wsL_madeUp ({ frames := 9, cells := rmc.cells, slots := rmc.slots, locals := 330 } : Room) [.ref r0, .int p0, .int p1, .ref o] G (sw ++ outC G o g) (fun u => sw2 u ++ outC G o (vp_updL g 0 ans.toInt64)) 0 := by
  refine ofLI (cc := cL_madeUp) (maxL := 5) (ret := (some .int)) (hh := [(0, 10, 13, 21), (0, 10, 17, 13)]) (by decide) rfl (Nat.le_of_ble_eq_true rfl) (fun p e s m below meth c A ls F hr htb hH hl => ?_)
  have F : Fx G p s m _ meth c cL_madeUp 5 wsL_madeUp RL A := F
  have hx := F.1.1
  have hb := F.1.2.1
  have hl : lv_has ls 5 [(0, .ref r0), (1, .int p0), (2, .int p1), (3, .ref o)] := hl
  refine lv_aload_n hx hb dL_madeUp_0 rfl (lv_at hl 3 rfl) ?_
  refine lv_iconst (v := 0) hx hb dL_madeUp_1 (by decide) ?_
  refine lv_aload_n hx hb dL_madeUp_2 rfl (lv_at hl 0 rfl) ?_
  refine lv_iload_n hx hb dL_madeUp_3 rfl (lv_at hl 1 rfl) ?_
  refine lv_iload_n hx hb dL_madeUp_4 rfl (lv_at hl 2 rfl) ?_
  refine callVI (a := []) (b := (outC G o g)) (rest := [.int 0, .ref o]) F hM gL_madeUp_X2_madeUp rfl hdX2_madeUp ⟨hf9, hl9⟩ hH (by simp) hrec rfl hl.1 (Nat.le_of_ble_eq_true rfl) dL_madeUp_5 ⟨by show 0 + rmc.cells ≤ rmc.cells; omega, by show 0 + rmc.slots ≤ rmc.slots; omega⟩ rfl (fun u H locs hH => ?_)
  have hH : HH G A s (sw2 u ++ outC G o g ++ []) H locs := by rw [List.nil_append] at hH; rw [List.append_nil]; exact hH
  refine lv_i2l hx hb dL_madeUp_8 rfl ?_
  refine rlast F hH ((sw2 u).length + 0) (n := 1) (f := g) (mid_at (k := 0) rfl) 0 rfl (by decide) (by decide) dL_madeUp_9 (fun H locs hH => ?_)
  have hH : HH G A s (sw2 u ++ outC G o (vp_updL g 0 ans.toInt64)) H locs := by rw [mid_set (Nat.zero_lt_succ _), List.append_nil] at hH; exact hH
  refine lv_goto (tgt := 21) hx hb dL_madeUp_10 (by decide) ?_
  refine lv_iconst (v := 0) hx hb dL_madeUp_21 (by decide) ?_
  exact retI F hr rfl u hH rfl (by show 0 + rmc.cells ≤ rmc.cells; omega) (by show 0 + rmc.slots ≤ rmc.slots; omega) dL_madeUp_22

set_option maxHeartbeats 4000000 in
set_option maxRecDepth 100000 in
theorem h_madeUp_x1 (l : Launch) (G : Gx) (sw : va_W) (r0 : Nat) (p0 : Int32) (p1 : Int32) (o : Nat) (g : Nat → Int64) (rmc : Room) (hf9 : rmc.frames + 1 ≤ 9) (hl9 : 8 + (4 + 11) + rmc.locals ≤ 330) (hrec : ∃ (i ci : Nat) (fs : List Value) (z : vw_C), sw[i]? = some (r0, .inr (ci, fs)) ∧ vwCl[ci]? = some z ∧ z.1 = RX2) (hM : MX l yX2_madeUp wsX2_madeUp rmc [.ref r0, .int p0, .int p1] G sw "java/lang/IndexOutOfBoundsException") : MI l yL_madeUp wsL_madeUp ({ frames := 9, cells := rmc.cells, slots := rmc.slots, locals := 330 } : Room) [.ref r0, .int p0, .int p1, .ref o] G (sw ++ outC G o g) (fun u => sw ++ outC G o g) 1 := by
  refine ofLI (cc := cL_madeUp) (maxL := 5) (ret := (some .int)) (hh := [(0, 10, 13, 21), (0, 10, 17, 13)]) (by decide) rfl (Nat.le_of_ble_eq_true rfl) (fun p e s m below meth c A ls F hr htb hH hl => ?_)
  have F : Fx G p s m _ meth c cL_madeUp 5 wsL_madeUp RL A := F
  have hx := F.1.1
  have hb := F.1.2.1
  have hl : lv_has ls 5 [(0, .ref r0), (1, .int p0), (2, .int p1), (3, .ref o)] := hl
  refine lv_aload_n hx hb dL_madeUp_0 rfl (lv_at hl 3 rfl) ?_
  refine lv_iconst (v := 0) hx hb dL_madeUp_1 (by decide) ?_
  refine lv_aload_n hx hb dL_madeUp_2 rfl (lv_at hl 0 rfl) ?_
  refine lv_iload_n hx hb dL_madeUp_3 rfl (lv_at hl 1 rfl) ?_
  refine lv_iload_n hx hb dL_madeUp_4 rfl (lv_at hl 2 rfl) ?_
  refine callVX (a := []) (b := (outC G o g)) (rest := [.int 0, .ref o]) F hM gL_madeUp_X2_madeUp rfl hdX2_madeUp ⟨hf9, hl9⟩ hH (by simp) hrec rfl hl.1 (Nat.le_of_ble_eq_true rfl) dL_madeUp_5 ⟨by show 0 + rmc.cells ≤ rmc.cells; omega, by show 0 + rmc.slots ≤ rmc.slots; omega⟩ rfl (fun ce q9 H locs hH h1 h2 h3 => ?_)
  refine vx_catch (own := RL) (name := "java/lang/IndexOutOfBoundsException") (E := "java/lang/IndexOutOfBoundsException") F.1.2.2.2.1 [] ⟨0, 10, 13, 21⟩ [⟨0, 10, 17, 13⟩] (htb.trans rfl) (fun z hz => absurd hz List.not_mem_nil) rfl (by decide) (F.1.2.2.2.2 (.classLink RL 21 "java/lang/IndexOutOfBoundsException") (by decide +kernel)) (va_tabs rfl rfl (F.2.2.2.1.2.2.2.1 (.castable "java/lang/IndexOutOfBoundsException" "java/lang/IndexOutOfBoundsException") (by decide +kernel))) h1 h2 h3 ?_
  refine lv_astore (lv' := [(4, .ref q9), (0, .ref r0), (1, .int p0), (2, .int p1), (3, .ref o)]) hx hb dL_madeUp_13 hl (by decide) rfl (fun ls hl => ?_)
  refine lv_iconst (v := 1) hx hb dL_madeUp_15 (by decide) ?_
  exact retI F hr rfl (fun _ => 0) hH rfl (by show 0 + rmc.cells ≤ rmc.cells; omega) (by show 0 + rmc.slots ≤ rmc.slots; omega) dL_madeUp_16

set_option maxHeartbeats 4000000 in
set_option maxRecDepth 100000 in
theorem h_madeUp_x2 (l : Launch) (G : Gx) (sw : va_W) (r0 : Nat) (p0 : Int32) (p1 : Int32) (o : Nat) (g : Nat → Int64) (rmc : Room) (hf9 : rmc.frames + 1 ≤ 9) (hl9 : 8 + (4 + 11) + rmc.locals ≤ 330) (hrec : ∃ (i ci : Nat) (fs : List Value) (z : vw_C), sw[i]? = some (r0, .inr (ci, fs)) ∧ vwCl[ci]? = some z ∧ z.1 = RX2) (hM : MX l yX2_madeUp wsX2_madeUp rmc [.ref r0, .int p0, .int p1] G sw "java/lang/IllegalArgumentException") : MI l yL_madeUp wsL_madeUp ({ frames := 9, cells := rmc.cells, slots := rmc.slots, locals := 330 } : Room) [.ref r0, .int p0, .int p1, .ref o] G (sw ++ outC G o g) (fun u => sw ++ outC G o g) 2 := by
  refine ofLI (cc := cL_madeUp) (maxL := 5) (ret := (some .int)) (hh := [(0, 10, 13, 21), (0, 10, 17, 13)]) (by decide) rfl (Nat.le_of_ble_eq_true rfl) (fun p e s m below meth c A ls F hr htb hH hl => ?_)
  have F : Fx G p s m _ meth c cL_madeUp 5 wsL_madeUp RL A := F
  have hx := F.1.1
  have hb := F.1.2.1
  have hl : lv_has ls 5 [(0, .ref r0), (1, .int p0), (2, .int p1), (3, .ref o)] := hl
  refine lv_aload_n hx hb dL_madeUp_0 rfl (lv_at hl 3 rfl) ?_
  refine lv_iconst (v := 0) hx hb dL_madeUp_1 (by decide) ?_
  refine lv_aload_n hx hb dL_madeUp_2 rfl (lv_at hl 0 rfl) ?_
  refine lv_iload_n hx hb dL_madeUp_3 rfl (lv_at hl 1 rfl) ?_
  refine lv_iload_n hx hb dL_madeUp_4 rfl (lv_at hl 2 rfl) ?_
  refine callVX (a := []) (b := (outC G o g)) (rest := [.int 0, .ref o]) F hM gL_madeUp_X2_madeUp rfl hdX2_madeUp ⟨hf9, hl9⟩ hH (by simp) hrec rfl hl.1 (Nat.le_of_ble_eq_true rfl) dL_madeUp_5 ⟨by show 0 + rmc.cells ≤ rmc.cells; omega, by show 0 + rmc.slots ≤ rmc.slots; omega⟩ rfl (fun ce q9 H locs hH h1 h2 h3 => ?_)
  refine vx_catch (own := RL) (name := "java/lang/IllegalArgumentException") (E := "java/lang/IllegalArgumentException") F.1.2.2.2.1 [⟨0, 10, 13, 21⟩] ⟨0, 10, 17, 13⟩ [] (htb.trans rfl) ?_ rfl (by decide) (F.1.2.2.2.2 (.classLink RL 13 "java/lang/IllegalArgumentException") (by decide +kernel)) (va_tabs rfl rfl (F.2.2.2.1.2.2.2.1 (.castable "java/lang/IllegalArgumentException" "java/lang/IllegalArgumentException") (by decide +kernel))) h1 h2 h3 ?_
  · intro z hz
    have hz := List.mem_singleton.mp hz
    subst hz
    exact Or.inr ⟨by decide, "java/lang/IndexOutOfBoundsException", F.1.2.2.2.2 (.classLink RL 21 "java/lang/IndexOutOfBoundsException") (by decide +kernel), F.2.2.2.1.2.2.2.2 ("java/lang/IllegalArgumentException", "java/lang/IndexOutOfBoundsException") (by decide)⟩
  refine lv_astore (lv' := [(4, .ref q9), (0, .ref r0), (1, .int p0), (2, .int p1), (3, .ref o)]) hx hb dL_madeUp_17 hl (by decide) rfl (fun ls hl => ?_)
  refine lv_iconst (v := 2) hx hb dL_madeUp_19 (by decide) ?_
  exact retI F hr rfl (fun _ => 0) hH rfl (by show 0 + rmc.cells ≤ rmc.cells; omega) (by show 0 + rmc.slots ≤ rmc.slots; omega) dL_madeUp_20

set_option maxHeartbeats 4000000 in
set_option maxRecDepth 100000 in
theorem h_cutWeeks_ok (l : Launch) (G : Gx) (sw : va_W) (r0 : Nat) (p0 : Int32) (o : Nat) (g : Nat → Int64) (rmc : Room) (hf9 : rmc.frames + 1 ≤ 9) (hl9 : 8 + (2 + 11) + rmc.locals ≤ 330) (hrec : ∃ (i ci : Nat) (fs : List Value) (z : vw_C), sw[i]? = some (r0, .inr (ci, fs)) ∧ vwCl[ci]? = some z ∧ z.1 = RX2) (sw2 : (Nat → Nat) → va_W) (ans : Int32) (hM : MI l yX2_cutWeeks wsX2_cutWeeks rmc [.ref r0, .int p0] G sw sw2 ans) : MI l yL_cutWeeks wsL_cutWeeks ({ frames := 9, cells := rmc.cells, slots := rmc.slots, locals := 330 } : Room) [.ref r0, .int p0, .ref o] G (sw ++ outC G o g) (fun u => sw2 u ++ outC G o (vp_updL g 0 ans.toInt64)) 0 := by
  refine ofLI (cc := cL_cutWeeks) (maxL := 4) (ret := (some .int)) (hh := [(0, 9, 12, 21)]) (by decide) rfl (Nat.le_of_ble_eq_true rfl) (fun p e s m below meth c A ls F hr htb hH hl => ?_)
  have F : Fx G p s m _ meth c cL_cutWeeks 4 wsL_cutWeeks RL A := F
  have hx := F.1.1
  have hb := F.1.2.1
  have hl : lv_has ls 4 [(0, .ref r0), (1, .int p0), (2, .ref o)] := hl
  refine lv_aload_n hx hb dL_cutWeeks_0 rfl (lv_at hl 2 rfl) ?_
  refine lv_iconst (v := 0) hx hb dL_cutWeeks_1 (by decide) ?_
  refine lv_aload_n hx hb dL_cutWeeks_2 rfl (lv_at hl 0 rfl) ?_
  refine lv_iload_n hx hb dL_cutWeeks_3 rfl (lv_at hl 1 rfl) ?_
  refine callVI (a := []) (b := (outC G o g)) (rest := [.int 0, .ref o]) F hM gL_cutWeeks_X2_cutWeeks rfl hdX2_cutWeeks ⟨hf9, hl9⟩ hH (by simp) hrec rfl hl.1 (Nat.le_of_ble_eq_true rfl) dL_cutWeeks_4 ⟨by show 0 + rmc.cells ≤ rmc.cells; omega, by show 0 + rmc.slots ≤ rmc.slots; omega⟩ rfl (fun u H locs hH => ?_)
  have hH : HH G A s (sw2 u ++ outC G o g ++ []) H locs := by rw [List.nil_append] at hH; rw [List.append_nil]; exact hH
  refine lv_i2l hx hb dL_cutWeeks_7 rfl ?_
  refine rlast F hH ((sw2 u).length + 0) (n := 1) (f := g) (mid_at (k := 0) rfl) 0 rfl (by decide) (by decide) dL_cutWeeks_8 (fun H locs hH => ?_)
  have hH : HH G A s (sw2 u ++ outC G o (vp_updL g 0 ans.toInt64)) H locs := by rw [mid_set (Nat.zero_lt_succ _), List.append_nil] at hH; exact hH
  refine lv_goto (tgt := 15) hx hb dL_cutWeeks_9 (by decide) ?_
  refine lv_iconst (v := 0) hx hb dL_cutWeeks_15 (by decide) ?_
  exact retI F hr rfl u hH rfl (by show 0 + rmc.cells ≤ rmc.cells; omega) (by show 0 + rmc.slots ≤ rmc.slots; omega) dL_cutWeeks_16

set_option maxHeartbeats 4000000 in
set_option maxRecDepth 100000 in
theorem h_cutWeeks_x1 (l : Launch) (G : Gx) (sw : va_W) (r0 : Nat) (p0 : Int32) (o : Nat) (g : Nat → Int64) (rmc : Room) (hf9 : rmc.frames + 1 ≤ 9) (hl9 : 8 + (2 + 11) + rmc.locals ≤ 330) (hrec : ∃ (i ci : Nat) (fs : List Value) (z : vw_C), sw[i]? = some (r0, .inr (ci, fs)) ∧ vwCl[ci]? = some z ∧ z.1 = RX2) (hM : MX l yX2_cutWeeks wsX2_cutWeeks rmc [.ref r0, .int p0] G sw "java/lang/IndexOutOfBoundsException") : MI l yL_cutWeeks wsL_cutWeeks ({ frames := 9, cells := rmc.cells, slots := rmc.slots, locals := 330 } : Room) [.ref r0, .int p0, .ref o] G (sw ++ outC G o g) (fun u => sw ++ outC G o g) 1 := by
  refine ofLI (cc := cL_cutWeeks) (maxL := 4) (ret := (some .int)) (hh := [(0, 9, 12, 21)]) (by decide) rfl (Nat.le_of_ble_eq_true rfl) (fun p e s m below meth c A ls F hr htb hH hl => ?_)
  have F : Fx G p s m _ meth c cL_cutWeeks 4 wsL_cutWeeks RL A := F
  have hx := F.1.1
  have hb := F.1.2.1
  have hl : lv_has ls 4 [(0, .ref r0), (1, .int p0), (2, .ref o)] := hl
  refine lv_aload_n hx hb dL_cutWeeks_0 rfl (lv_at hl 2 rfl) ?_
  refine lv_iconst (v := 0) hx hb dL_cutWeeks_1 (by decide) ?_
  refine lv_aload_n hx hb dL_cutWeeks_2 rfl (lv_at hl 0 rfl) ?_
  refine lv_iload_n hx hb dL_cutWeeks_3 rfl (lv_at hl 1 rfl) ?_
  refine callVX (a := []) (b := (outC G o g)) (rest := [.int 0, .ref o]) F hM gL_cutWeeks_X2_cutWeeks rfl hdX2_cutWeeks ⟨hf9, hl9⟩ hH (by simp) hrec rfl hl.1 (Nat.le_of_ble_eq_true rfl) dL_cutWeeks_4 ⟨by show 0 + rmc.cells ≤ rmc.cells; omega, by show 0 + rmc.slots ≤ rmc.slots; omega⟩ rfl (fun ce q9 H locs hH h1 h2 h3 => ?_)
  refine vx_catch (own := RL) (name := "java/lang/IndexOutOfBoundsException") (E := "java/lang/IndexOutOfBoundsException") F.1.2.2.2.1 [] ⟨0, 9, 12, 21⟩ [] (htb.trans rfl) (fun z hz => absurd hz List.not_mem_nil) rfl (by decide) (F.1.2.2.2.2 (.classLink RL 21 "java/lang/IndexOutOfBoundsException") (by decide +kernel)) (va_tabs rfl rfl (F.2.2.2.1.2.2.2.1 (.castable "java/lang/IndexOutOfBoundsException" "java/lang/IndexOutOfBoundsException") (by decide +kernel))) h1 h2 h3 ?_
  refine lv_astore_n (lv' := [(3, .ref q9), (0, .ref r0), (1, .int p0), (2, .ref o)]) hx hb dL_cutWeeks_12 rfl hl (by decide) rfl (fun ls hl => ?_)
  refine lv_iconst (v := 1) hx hb dL_cutWeeks_13 (by decide) ?_
  exact retI F hr rfl (fun _ => 0) hH rfl (by show 0 + rmc.cells ≤ rmc.cells; omega) (by show 0 + rmc.slots ≤ rmc.slots; omega) dL_cutWeeks_14

set_option maxHeartbeats 4000000 in
set_option maxRecDepth 100000 in
theorem h_door_ok (l : Launch) (G : Gx) (sw : va_W) (r0 : Nat) (p0 : Int32) (p1 : Int32) (p2 : Int32) (rmc : Room) (hf9 : rmc.frames + 1 ≤ 9) (hl9 : 8 + (5 + 11) + rmc.locals ≤ 330) (hrec : ∃ (i ci : Nat) (fs : List Value) (z : vw_C), sw[i]? = some (r0, .inr (ci, fs)) ∧ vwCl[ci]? = some z ∧ z.1 = RX2) (sw2 : (Nat → Nat) → va_W) (hM : MV l yX2_door wsX2_door rmc [.ref r0, .int p0, .int p1, .int p2] G sw sw2) : MI l yL_door wsL_door ({ frames := 9, cells := rmc.cells, slots := rmc.slots, locals := 330 } : Room) [.ref r0, .int p0, .int p1, .int p2] G (sw) (fun u => sw2 u) 0 := by
  refine ofLI (cc := cL_door) (maxL := 5) (ret := (some .int)) (hh := [(0, 7, 10, 21), (0, 7, 14, 13), (0, 7, 18, 15)]) (by decide) rfl (Nat.le_of_ble_eq_true rfl) (fun p e s m below meth c A ls F hr htb hH hl => ?_)
  have F : Fx G p s m _ meth c cL_door 5 wsL_door RL A := F
  have hx := F.1.1
  have hb := F.1.2.1
  have hl : lv_has ls 5 [(0, .ref r0), (1, .int p0), (2, .int p1), (3, .int p2)] := hl
  refine lv_aload_n hx hb dL_door_0 rfl (lv_at hl 0 rfl) ?_
  refine lv_iload_n hx hb dL_door_1 rfl (lv_at hl 1 rfl) ?_
  refine lv_iload_n hx hb dL_door_2 rfl (lv_at hl 2 rfl) ?_
  refine lv_iload_n hx hb dL_door_3 rfl (lv_at hl 3 rfl) ?_
  refine callVV (a := []) (b := []) (rest := []) F hM gL_door_X2_door rfl hdX2_door ⟨hf9, hl9⟩ hH (by simp) hrec rfl hl.1 (Nat.le_of_ble_eq_true rfl) dL_door_4 ⟨by show 0 + rmc.cells ≤ rmc.cells; omega, by show 0 + rmc.slots ≤ rmc.slots; omega⟩ rfl (fun u H locs hH => ?_)
  have hH : HH G A s (sw2 u) H locs := by rw [List.nil_append, List.append_nil] at hH; exact hH
  refine lv_goto (tgt := 22) hx hb dL_door_7 (by decide) ?_
  refine lv_iconst (v := 0) hx hb dL_door_22 (by decide) ?_
  exact retI F hr rfl u hH rfl (by show 0 + rmc.cells ≤ rmc.cells; omega) (by show 0 + rmc.slots ≤ rmc.slots; omega) dL_door_23

set_option maxHeartbeats 4000000 in
set_option maxRecDepth 100000 in
theorem h_door_x1 (l : Launch) (G : Gx) (sw : va_W) (r0 : Nat) (p0 : Int32) (p1 : Int32) (p2 : Int32) (rmc : Room) (hf9 : rmc.frames + 1 ≤ 9) (hl9 : 8 + (5 + 11) + rmc.locals ≤ 330) (hrec : ∃ (i ci : Nat) (fs : List Value) (z : vw_C), sw[i]? = some (r0, .inr (ci, fs)) ∧ vwCl[ci]? = some z ∧ z.1 = RX2) (hM : MX l yX2_door wsX2_door rmc [.ref r0, .int p0, .int p1, .int p2] G sw "java/lang/IndexOutOfBoundsException") : MI l yL_door wsL_door ({ frames := 9, cells := rmc.cells, slots := rmc.slots, locals := 330 } : Room) [.ref r0, .int p0, .int p1, .int p2] G (sw) (fun u => sw) 1 := by
  refine ofLI (cc := cL_door) (maxL := 5) (ret := (some .int)) (hh := [(0, 7, 10, 21), (0, 7, 14, 13), (0, 7, 18, 15)]) (by decide) rfl (Nat.le_of_ble_eq_true rfl) (fun p e s m below meth c A ls F hr htb hH hl => ?_)
  have F : Fx G p s m _ meth c cL_door 5 wsL_door RL A := F
  have hx := F.1.1
  have hb := F.1.2.1
  have hl : lv_has ls 5 [(0, .ref r0), (1, .int p0), (2, .int p1), (3, .int p2)] := hl
  refine lv_aload_n hx hb dL_door_0 rfl (lv_at hl 0 rfl) ?_
  refine lv_iload_n hx hb dL_door_1 rfl (lv_at hl 1 rfl) ?_
  refine lv_iload_n hx hb dL_door_2 rfl (lv_at hl 2 rfl) ?_
  refine lv_iload_n hx hb dL_door_3 rfl (lv_at hl 3 rfl) ?_
  refine callVX (a := []) (b := []) (rest := []) F hM gL_door_X2_door rfl hdX2_door ⟨hf9, hl9⟩ hH (by simp) hrec rfl hl.1 (Nat.le_of_ble_eq_true rfl) dL_door_4 ⟨by show 0 + rmc.cells ≤ rmc.cells; omega, by show 0 + rmc.slots ≤ rmc.slots; omega⟩ rfl (fun ce q9 H locs hH h1 h2 h3 => ?_)
  refine vx_catch (own := RL) (name := "java/lang/IndexOutOfBoundsException") (E := "java/lang/IndexOutOfBoundsException") F.1.2.2.2.1 [] ⟨0, 7, 10, 21⟩ [⟨0, 7, 14, 13⟩, ⟨0, 7, 18, 15⟩] (htb.trans rfl) (fun z hz => absurd hz List.not_mem_nil) rfl (by decide) (F.1.2.2.2.2 (.classLink RL 21 "java/lang/IndexOutOfBoundsException") (by decide +kernel)) (va_tabs rfl rfl (F.2.2.2.1.2.2.2.1 (.castable "java/lang/IndexOutOfBoundsException" "java/lang/IndexOutOfBoundsException") (by decide +kernel))) h1 h2 h3 ?_
  refine lv_astore (lv' := [(4, .ref q9), (0, .ref r0), (1, .int p0), (2, .int p1), (3, .int p2)]) hx hb dL_door_10 hl (by decide) rfl (fun ls hl => ?_)
  refine lv_iconst (v := 1) hx hb dL_door_12 (by decide) ?_
  exact retI F hr rfl (fun _ => 0) hH rfl (by show 0 + rmc.cells ≤ rmc.cells; omega) (by show 0 + rmc.slots ≤ rmc.slots; omega) dL_door_13

set_option maxHeartbeats 4000000 in
set_option maxRecDepth 100000 in
theorem h_door_x2 (l : Launch) (G : Gx) (sw : va_W) (r0 : Nat) (p0 : Int32) (p1 : Int32) (p2 : Int32) (rmc : Room) (hf9 : rmc.frames + 1 ≤ 9) (hl9 : 8 + (5 + 11) + rmc.locals ≤ 330) (hrec : ∃ (i ci : Nat) (fs : List Value) (z : vw_C), sw[i]? = some (r0, .inr (ci, fs)) ∧ vwCl[ci]? = some z ∧ z.1 = RX2) (hM : MX l yX2_door wsX2_door rmc [.ref r0, .int p0, .int p1, .int p2] G sw "java/lang/IllegalArgumentException") : MI l yL_door wsL_door ({ frames := 9, cells := rmc.cells, slots := rmc.slots, locals := 330 } : Room) [.ref r0, .int p0, .int p1, .int p2] G (sw) (fun u => sw) 2 := by
  refine ofLI (cc := cL_door) (maxL := 5) (ret := (some .int)) (hh := [(0, 7, 10, 21), (0, 7, 14, 13), (0, 7, 18, 15)]) (by decide) rfl (Nat.le_of_ble_eq_true rfl) (fun p e s m below meth c A ls F hr htb hH hl => ?_)
  have F : Fx G p s m _ meth c cL_door 5 wsL_door RL A := F
  have hx := F.1.1
  have hb := F.1.2.1
  have hl : lv_has ls 5 [(0, .ref r0), (1, .int p0), (2, .int p1), (3, .int p2)] := hl
  refine lv_aload_n hx hb dL_door_0 rfl (lv_at hl 0 rfl) ?_
  refine lv_iload_n hx hb dL_door_1 rfl (lv_at hl 1 rfl) ?_
  refine lv_iload_n hx hb dL_door_2 rfl (lv_at hl 2 rfl) ?_
  refine lv_iload_n hx hb dL_door_3 rfl (lv_at hl 3 rfl) ?_
  refine callVX (a := []) (b := []) (rest := []) F hM gL_door_X2_door rfl hdX2_door ⟨hf9, hl9⟩ hH (by simp) hrec rfl hl.1 (Nat.le_of_ble_eq_true rfl) dL_door_4 ⟨by show 0 + rmc.cells ≤ rmc.cells; omega, by show 0 + rmc.slots ≤ rmc.slots; omega⟩ rfl (fun ce q9 H locs hH h1 h2 h3 => ?_)
  refine vx_catch (own := RL) (name := "java/lang/IllegalArgumentException") (E := "java/lang/IllegalArgumentException") F.1.2.2.2.1 [⟨0, 7, 10, 21⟩] ⟨0, 7, 14, 13⟩ [⟨0, 7, 18, 15⟩] (htb.trans rfl) ?_ rfl (by decide) (F.1.2.2.2.2 (.classLink RL 13 "java/lang/IllegalArgumentException") (by decide +kernel)) (va_tabs rfl rfl (F.2.2.2.1.2.2.2.1 (.castable "java/lang/IllegalArgumentException" "java/lang/IllegalArgumentException") (by decide +kernel))) h1 h2 h3 ?_
  · intro z hz
    have hz := List.mem_singleton.mp hz
    subst hz
    exact Or.inr ⟨by decide, "java/lang/IndexOutOfBoundsException", F.1.2.2.2.2 (.classLink RL 21 "java/lang/IndexOutOfBoundsException") (by decide +kernel), F.2.2.2.1.2.2.2.2 ("java/lang/IllegalArgumentException", "java/lang/IndexOutOfBoundsException") (by decide)⟩
  refine lv_astore (lv' := [(4, .ref q9), (0, .ref r0), (1, .int p0), (2, .int p1), (3, .int p2)]) hx hb dL_door_14 hl (by decide) rfl (fun ls hl => ?_)
  refine lv_iconst (v := 2) hx hb dL_door_16 (by decide) ?_
  exact retI F hr rfl (fun _ => 0) hH rfl (by show 0 + rmc.cells ≤ rmc.cells; omega) (by show 0 + rmc.slots ≤ rmc.slots; omega) dL_door_17

set_option maxHeartbeats 4000000 in
set_option maxRecDepth 100000 in
theorem h_door_x3 (l : Launch) (G : Gx) (sw : va_W) (r0 : Nat) (p0 : Int32) (p1 : Int32) (p2 : Int32) (rmc : Room) (hf9 : rmc.frames + 1 ≤ 9) (hl9 : 8 + (5 + 11) + rmc.locals ≤ 330) (hrec : ∃ (i ci : Nat) (fs : List Value) (z : vw_C), sw[i]? = some (r0, .inr (ci, fs)) ∧ vwCl[ci]? = some z ∧ z.1 = RX2) (hM : MX l yX2_door wsX2_door rmc [.ref r0, .int p0, .int p1, .int p2] G sw "java/lang/IllegalStateException") : MI l yL_door wsL_door ({ frames := 9, cells := rmc.cells, slots := rmc.slots, locals := 330 } : Room) [.ref r0, .int p0, .int p1, .int p2] G (sw) (fun u => sw) 3 := by
  refine ofLI (cc := cL_door) (maxL := 5) (ret := (some .int)) (hh := [(0, 7, 10, 21), (0, 7, 14, 13), (0, 7, 18, 15)]) (by decide) rfl (Nat.le_of_ble_eq_true rfl) (fun p e s m below meth c A ls F hr htb hH hl => ?_)
  have F : Fx G p s m _ meth c cL_door 5 wsL_door RL A := F
  have hx := F.1.1
  have hb := F.1.2.1
  have hl : lv_has ls 5 [(0, .ref r0), (1, .int p0), (2, .int p1), (3, .int p2)] := hl
  refine lv_aload_n hx hb dL_door_0 rfl (lv_at hl 0 rfl) ?_
  refine lv_iload_n hx hb dL_door_1 rfl (lv_at hl 1 rfl) ?_
  refine lv_iload_n hx hb dL_door_2 rfl (lv_at hl 2 rfl) ?_
  refine lv_iload_n hx hb dL_door_3 rfl (lv_at hl 3 rfl) ?_
  refine callVX (a := []) (b := []) (rest := []) F hM gL_door_X2_door rfl hdX2_door ⟨hf9, hl9⟩ hH (by simp) hrec rfl hl.1 (Nat.le_of_ble_eq_true rfl) dL_door_4 ⟨by show 0 + rmc.cells ≤ rmc.cells; omega, by show 0 + rmc.slots ≤ rmc.slots; omega⟩ rfl (fun ce q9 H locs hH h1 h2 h3 => ?_)
  refine vx_catch (own := RL) (name := "java/lang/IllegalStateException") (E := "java/lang/IllegalStateException") F.1.2.2.2.1 [⟨0, 7, 10, 21⟩, ⟨0, 7, 14, 13⟩] ⟨0, 7, 18, 15⟩ [] (htb.trans rfl) ?_ rfl (by decide) (F.1.2.2.2.2 (.classLink RL 15 "java/lang/IllegalStateException") (by decide +kernel)) (va_tabs rfl rfl (F.2.2.2.1.2.2.2.1 (.castable "java/lang/IllegalStateException" "java/lang/IllegalStateException") (by decide +kernel))) h1 h2 h3 ?_
  · intro z hz
    rcases List.mem_cons.mp hz with hz | hz
    · subst hz
      exact Or.inr ⟨by decide, "java/lang/IndexOutOfBoundsException", F.1.2.2.2.2 (.classLink RL 21 "java/lang/IndexOutOfBoundsException") (by decide +kernel), F.2.2.2.1.2.2.2.2 ("java/lang/IllegalStateException", "java/lang/IndexOutOfBoundsException") (by decide)⟩
    · have hz := List.mem_singleton.mp hz
      subst hz
      exact Or.inr ⟨by decide, "java/lang/IllegalArgumentException", F.1.2.2.2.2 (.classLink RL 13 "java/lang/IllegalArgumentException") (by decide +kernel), F.2.2.2.1.2.2.2.2 ("java/lang/IllegalStateException", "java/lang/IllegalArgumentException") (by decide)⟩
  refine lv_astore (lv' := [(4, .ref q9), (0, .ref r0), (1, .int p0), (2, .int p1), (3, .int p2)]) hx hb dL_door_18 hl (by decide) rfl (fun ls hl => ?_)
  refine lv_iconst (v := 3) hx hb dL_door_20 (by decide) ?_
  exact retI F hr rfl (fun _ => 0) hH rfl (by show 0 + rmc.cells ≤ rmc.cells; omega) (by show 0 + rmc.slots ≤ rmc.slots; omega) dL_door_21

set_option maxHeartbeats 4000000 in
set_option maxRecDepth 100000 in
theorem h_mail_ok (l : Launch) (G : Gx) (sw : va_W) (r0 : Nat) (p0 : Int32) (p1 : Int32) (rmc : Room) (hf9 : rmc.frames + 1 ≤ 9) (hl9 : 8 + (4 + 11) + rmc.locals ≤ 330) (hrec : ∃ (i ci : Nat) (fs : List Value) (z : vw_C), sw[i]? = some (r0, .inr (ci, fs)) ∧ vwCl[ci]? = some z ∧ z.1 = RX2) (sw2 : (Nat → Nat) → va_W) (hM : MV l yX2_mail wsX2_mail rmc [.ref r0, .int p0, .int p1] G sw sw2) : MI l yL_mail wsL_mail ({ frames := 9, cells := rmc.cells, slots := rmc.slots, locals := 330 } : Room) [.ref r0, .int p0, .int p1] G (sw) (fun u => sw2 u) 0 := by
  refine ofLI (cc := cL_mail) (maxL := 4) (ret := (some .int)) (hh := [(0, 6, 9, 21), (0, 6, 12, 13), (0, 6, 15, 15)]) (by decide) rfl (Nat.le_of_ble_eq_true rfl) (fun p e s m below meth c A ls F hr htb hH hl => ?_)
  have F : Fx G p s m _ meth c cL_mail 4 wsL_mail RL A := F
  have hx := F.1.1
  have hb := F.1.2.1
  have hl : lv_has ls 4 [(0, .ref r0), (1, .int p0), (2, .int p1)] := hl
  refine lv_aload_n hx hb dL_mail_0 rfl (lv_at hl 0 rfl) ?_
  refine lv_iload_n hx hb dL_mail_1 rfl (lv_at hl 1 rfl) ?_
  refine lv_iload_n hx hb dL_mail_2 rfl (lv_at hl 2 rfl) ?_
  refine callVV (a := []) (b := []) (rest := []) F hM gL_mail_X2_mail rfl hdX2_mail ⟨hf9, hl9⟩ hH (by simp) hrec rfl hl.1 (Nat.le_of_ble_eq_true rfl) dL_mail_3 ⟨by show 0 + rmc.cells ≤ rmc.cells; omega, by show 0 + rmc.slots ≤ rmc.slots; omega⟩ rfl (fun u H locs hH => ?_)
  have hH : HH G A s (sw2 u) H locs := by rw [List.nil_append, List.append_nil] at hH; exact hH
  refine lv_goto (tgt := 18) hx hb dL_mail_6 (by decide) ?_
  refine lv_iconst (v := 0) hx hb dL_mail_18 (by decide) ?_
  exact retI F hr rfl u hH rfl (by show 0 + rmc.cells ≤ rmc.cells; omega) (by show 0 + rmc.slots ≤ rmc.slots; omega) dL_mail_19

set_option maxHeartbeats 4000000 in
set_option maxRecDepth 100000 in
theorem h_mail_x1 (l : Launch) (G : Gx) (sw : va_W) (r0 : Nat) (p0 : Int32) (p1 : Int32) (rmc : Room) (hf9 : rmc.frames + 1 ≤ 9) (hl9 : 8 + (4 + 11) + rmc.locals ≤ 330) (hrec : ∃ (i ci : Nat) (fs : List Value) (z : vw_C), sw[i]? = some (r0, .inr (ci, fs)) ∧ vwCl[ci]? = some z ∧ z.1 = RX2) (hM : MX l yX2_mail wsX2_mail rmc [.ref r0, .int p0, .int p1] G sw "java/lang/IndexOutOfBoundsException") : MI l yL_mail wsL_mail ({ frames := 9, cells := rmc.cells, slots := rmc.slots, locals := 330 } : Room) [.ref r0, .int p0, .int p1] G (sw) (fun u => sw) 1 := by
  refine ofLI (cc := cL_mail) (maxL := 4) (ret := (some .int)) (hh := [(0, 6, 9, 21), (0, 6, 12, 13), (0, 6, 15, 15)]) (by decide) rfl (Nat.le_of_ble_eq_true rfl) (fun p e s m below meth c A ls F hr htb hH hl => ?_)
  have F : Fx G p s m _ meth c cL_mail 4 wsL_mail RL A := F
  have hx := F.1.1
  have hb := F.1.2.1
  have hl : lv_has ls 4 [(0, .ref r0), (1, .int p0), (2, .int p1)] := hl
  refine lv_aload_n hx hb dL_mail_0 rfl (lv_at hl 0 rfl) ?_
  refine lv_iload_n hx hb dL_mail_1 rfl (lv_at hl 1 rfl) ?_
  refine lv_iload_n hx hb dL_mail_2 rfl (lv_at hl 2 rfl) ?_
  refine callVX (a := []) (b := []) (rest := []) F hM gL_mail_X2_mail rfl hdX2_mail ⟨hf9, hl9⟩ hH (by simp) hrec rfl hl.1 (Nat.le_of_ble_eq_true rfl) dL_mail_3 ⟨by show 0 + rmc.cells ≤ rmc.cells; omega, by show 0 + rmc.slots ≤ rmc.slots; omega⟩ rfl (fun ce q9 H locs hH h1 h2 h3 => ?_)
  refine vx_catch (own := RL) (name := "java/lang/IndexOutOfBoundsException") (E := "java/lang/IndexOutOfBoundsException") F.1.2.2.2.1 [] ⟨0, 6, 9, 21⟩ [⟨0, 6, 12, 13⟩, ⟨0, 6, 15, 15⟩] (htb.trans rfl) (fun z hz => absurd hz List.not_mem_nil) rfl (by decide) (F.1.2.2.2.2 (.classLink RL 21 "java/lang/IndexOutOfBoundsException") (by decide +kernel)) (va_tabs rfl rfl (F.2.2.2.1.2.2.2.1 (.castable "java/lang/IndexOutOfBoundsException" "java/lang/IndexOutOfBoundsException") (by decide +kernel))) h1 h2 h3 ?_
  refine lv_astore_n (lv' := [(3, .ref q9), (0, .ref r0), (1, .int p0), (2, .int p1)]) hx hb dL_mail_9 rfl hl (by decide) rfl (fun ls hl => ?_)
  refine lv_iconst (v := 1) hx hb dL_mail_10 (by decide) ?_
  exact retI F hr rfl (fun _ => 0) hH rfl (by show 0 + rmc.cells ≤ rmc.cells; omega) (by show 0 + rmc.slots ≤ rmc.slots; omega) dL_mail_11

set_option maxHeartbeats 4000000 in
set_option maxRecDepth 100000 in
theorem h_mail_x2 (l : Launch) (G : Gx) (sw : va_W) (r0 : Nat) (p0 : Int32) (p1 : Int32) (rmc : Room) (hf9 : rmc.frames + 1 ≤ 9) (hl9 : 8 + (4 + 11) + rmc.locals ≤ 330) (hrec : ∃ (i ci : Nat) (fs : List Value) (z : vw_C), sw[i]? = some (r0, .inr (ci, fs)) ∧ vwCl[ci]? = some z ∧ z.1 = RX2) (hM : MX l yX2_mail wsX2_mail rmc [.ref r0, .int p0, .int p1] G sw "java/lang/IllegalArgumentException") : MI l yL_mail wsL_mail ({ frames := 9, cells := rmc.cells, slots := rmc.slots, locals := 330 } : Room) [.ref r0, .int p0, .int p1] G (sw) (fun u => sw) 2 := by
  refine ofLI (cc := cL_mail) (maxL := 4) (ret := (some .int)) (hh := [(0, 6, 9, 21), (0, 6, 12, 13), (0, 6, 15, 15)]) (by decide) rfl (Nat.le_of_ble_eq_true rfl) (fun p e s m below meth c A ls F hr htb hH hl => ?_)
  have F : Fx G p s m _ meth c cL_mail 4 wsL_mail RL A := F
  have hx := F.1.1
  have hb := F.1.2.1
  have hl : lv_has ls 4 [(0, .ref r0), (1, .int p0), (2, .int p1)] := hl
  refine lv_aload_n hx hb dL_mail_0 rfl (lv_at hl 0 rfl) ?_
  refine lv_iload_n hx hb dL_mail_1 rfl (lv_at hl 1 rfl) ?_
  refine lv_iload_n hx hb dL_mail_2 rfl (lv_at hl 2 rfl) ?_
  refine callVX (a := []) (b := []) (rest := []) F hM gL_mail_X2_mail rfl hdX2_mail ⟨hf9, hl9⟩ hH (by simp) hrec rfl hl.1 (Nat.le_of_ble_eq_true rfl) dL_mail_3 ⟨by show 0 + rmc.cells ≤ rmc.cells; omega, by show 0 + rmc.slots ≤ rmc.slots; omega⟩ rfl (fun ce q9 H locs hH h1 h2 h3 => ?_)
  refine vx_catch (own := RL) (name := "java/lang/IllegalArgumentException") (E := "java/lang/IllegalArgumentException") F.1.2.2.2.1 [⟨0, 6, 9, 21⟩] ⟨0, 6, 12, 13⟩ [⟨0, 6, 15, 15⟩] (htb.trans rfl) ?_ rfl (by decide) (F.1.2.2.2.2 (.classLink RL 13 "java/lang/IllegalArgumentException") (by decide +kernel)) (va_tabs rfl rfl (F.2.2.2.1.2.2.2.1 (.castable "java/lang/IllegalArgumentException" "java/lang/IllegalArgumentException") (by decide +kernel))) h1 h2 h3 ?_
  · intro z hz
    have hz := List.mem_singleton.mp hz
    subst hz
    exact Or.inr ⟨by decide, "java/lang/IndexOutOfBoundsException", F.1.2.2.2.2 (.classLink RL 21 "java/lang/IndexOutOfBoundsException") (by decide +kernel), F.2.2.2.1.2.2.2.2 ("java/lang/IllegalArgumentException", "java/lang/IndexOutOfBoundsException") (by decide)⟩
  refine lv_astore_n (lv' := [(3, .ref q9), (0, .ref r0), (1, .int p0), (2, .int p1)]) hx hb dL_mail_12 rfl hl (by decide) rfl (fun ls hl => ?_)
  refine lv_iconst (v := 2) hx hb dL_mail_13 (by decide) ?_
  exact retI F hr rfl (fun _ => 0) hH rfl (by show 0 + rmc.cells ≤ rmc.cells; omega) (by show 0 + rmc.slots ≤ rmc.slots; omega) dL_mail_14

set_option maxHeartbeats 4000000 in
set_option maxRecDepth 100000 in
theorem h_mail_x3 (l : Launch) (G : Gx) (sw : va_W) (r0 : Nat) (p0 : Int32) (p1 : Int32) (rmc : Room) (hf9 : rmc.frames + 1 ≤ 9) (hl9 : 8 + (4 + 11) + rmc.locals ≤ 330) (hrec : ∃ (i ci : Nat) (fs : List Value) (z : vw_C), sw[i]? = some (r0, .inr (ci, fs)) ∧ vwCl[ci]? = some z ∧ z.1 = RX2) (hM : MX l yX2_mail wsX2_mail rmc [.ref r0, .int p0, .int p1] G sw "java/lang/IllegalStateException") : MI l yL_mail wsL_mail ({ frames := 9, cells := rmc.cells, slots := rmc.slots, locals := 330 } : Room) [.ref r0, .int p0, .int p1] G (sw) (fun u => sw) 3 := by
  refine ofLI (cc := cL_mail) (maxL := 4) (ret := (some .int)) (hh := [(0, 6, 9, 21), (0, 6, 12, 13), (0, 6, 15, 15)]) (by decide) rfl (Nat.le_of_ble_eq_true rfl) (fun p e s m below meth c A ls F hr htb hH hl => ?_)
  have F : Fx G p s m _ meth c cL_mail 4 wsL_mail RL A := F
  have hx := F.1.1
  have hb := F.1.2.1
  have hl : lv_has ls 4 [(0, .ref r0), (1, .int p0), (2, .int p1)] := hl
  refine lv_aload_n hx hb dL_mail_0 rfl (lv_at hl 0 rfl) ?_
  refine lv_iload_n hx hb dL_mail_1 rfl (lv_at hl 1 rfl) ?_
  refine lv_iload_n hx hb dL_mail_2 rfl (lv_at hl 2 rfl) ?_
  refine callVX (a := []) (b := []) (rest := []) F hM gL_mail_X2_mail rfl hdX2_mail ⟨hf9, hl9⟩ hH (by simp) hrec rfl hl.1 (Nat.le_of_ble_eq_true rfl) dL_mail_3 ⟨by show 0 + rmc.cells ≤ rmc.cells; omega, by show 0 + rmc.slots ≤ rmc.slots; omega⟩ rfl (fun ce q9 H locs hH h1 h2 h3 => ?_)
  refine vx_catch (own := RL) (name := "java/lang/IllegalStateException") (E := "java/lang/IllegalStateException") F.1.2.2.2.1 [⟨0, 6, 9, 21⟩, ⟨0, 6, 12, 13⟩] ⟨0, 6, 15, 15⟩ [] (htb.trans rfl) ?_ rfl (by decide) (F.1.2.2.2.2 (.classLink RL 15 "java/lang/IllegalStateException") (by decide +kernel)) (va_tabs rfl rfl (F.2.2.2.1.2.2.2.1 (.castable "java/lang/IllegalStateException" "java/lang/IllegalStateException") (by decide +kernel))) h1 h2 h3 ?_
  · intro z hz
    rcases List.mem_cons.mp hz with hz | hz
    · subst hz
      exact Or.inr ⟨by decide, "java/lang/IndexOutOfBoundsException", F.1.2.2.2.2 (.classLink RL 21 "java/lang/IndexOutOfBoundsException") (by decide +kernel), F.2.2.2.1.2.2.2.2 ("java/lang/IllegalStateException", "java/lang/IndexOutOfBoundsException") (by decide)⟩
    · have hz := List.mem_singleton.mp hz
      subst hz
      exact Or.inr ⟨by decide, "java/lang/IllegalArgumentException", F.1.2.2.2.2 (.classLink RL 13 "java/lang/IllegalArgumentException") (by decide +kernel), F.2.2.2.1.2.2.2.2 ("java/lang/IllegalStateException", "java/lang/IllegalArgumentException") (by decide)⟩
  refine lv_astore_n (lv' := [(3, .ref q9), (0, .ref r0), (1, .int p0), (2, .int p1)]) hx hb dL_mail_15 rfl hl (by decide) rfl (fun ls hl => ?_)
  refine lv_iconst (v := 3) hx hb dL_mail_16 (by decide) ?_
  exact retI F hr rfl (fun _ => 0) hH rfl (by show 0 + rmc.cells ≤ rmc.cells; omega) (by show 0 + rmc.slots ≤ rmc.slots; omega) dL_mail_17

set_option maxHeartbeats 4000000 in
set_option maxRecDepth 100000 in
theorem h_check_ok (l : Launch) (G : Gx) (sw : va_W) (r0 : Nat) (p0 : Int32) (o : Nat) (g : Nat → Int64) (rmc : Room) (hf9 : rmc.frames + 1 ≤ 9) (hl9 : 8 + (7 + 11) + rmc.locals ≤ 330) (hrec : ∃ (i ci : Nat) (fs : List Value) (z : vw_C), sw[i]? = some (r0, .inr (ci, fs)) ∧ vwCl[ci]? = some z ∧ z.1 = RX2) (sw2 : (Nat → Nat) → va_W) (ans : Int32) (hM : MI l yX2_check wsX2_check rmc [.ref r0, .int p0] G sw sw2 ans) : MI l yL_check wsL_check ({ frames := 9, cells := rmc.cells, slots := rmc.slots, locals := 330 } : Room) [.ref r0, .int p0, .ref o] G (sw ++ outC G o g) (fun u => sw2 u ++ outC G o (vp_updL g 0 ans.toInt64)) 0 := by
  refine ofLI (cc := cL_check) (maxL := 4) (ret := (some .int)) (hh := [(0, 9, 12, 13), (0, 9, 15, 15)]) (by decide) rfl (Nat.le_of_ble_eq_true rfl) (fun p e s m below meth c A ls F hr htb hH hl => ?_)
  have F : Fx G p s m _ meth c cL_check 4 wsL_check RL A := F
  have hx := F.1.1
  have hb := F.1.2.1
  have hl : lv_has ls 4 [(0, .ref r0), (1, .int p0), (2, .ref o)] := hl
  refine lv_aload_n hx hb dL_check_0 rfl (lv_at hl 2 rfl) ?_
  refine lv_iconst (v := 0) hx hb dL_check_1 (by decide) ?_
  refine lv_aload_n hx hb dL_check_2 rfl (lv_at hl 0 rfl) ?_
  refine lv_iload_n hx hb dL_check_3 rfl (lv_at hl 1 rfl) ?_
  refine callVI (a := []) (b := (outC G o g)) (rest := [.int 0, .ref o]) F hM gL_check_X2_check rfl hdX2_check ⟨hf9, hl9⟩ hH (by simp) hrec rfl hl.1 (Nat.le_of_ble_eq_true rfl) dL_check_4 ⟨by show 0 + rmc.cells ≤ rmc.cells; omega, by show 0 + rmc.slots ≤ rmc.slots; omega⟩ rfl (fun u H locs hH => ?_)
  have hH : HH G A s (sw2 u ++ outC G o g ++ []) H locs := by rw [List.nil_append] at hH; rw [List.append_nil]; exact hH
  refine lv_i2l hx hb dL_check_7 rfl ?_
  refine rlast F hH ((sw2 u).length + 0) (n := 1) (f := g) (mid_at (k := 0) rfl) 0 rfl (by decide) (by decide) dL_check_8 (fun H locs hH => ?_)
  have hH : HH G A s (sw2 u ++ outC G o (vp_updL g 0 ans.toInt64)) H locs := by rw [mid_set (Nat.zero_lt_succ _), List.append_nil] at hH; exact hH
  refine lv_goto (tgt := 18) hx hb dL_check_9 (by decide) ?_
  refine lv_iconst (v := 0) hx hb dL_check_18 (by decide) ?_
  exact retI F hr rfl u hH rfl (by show 0 + rmc.cells ≤ rmc.cells; omega) (by show 0 + rmc.slots ≤ rmc.slots; omega) dL_check_19

set_option maxHeartbeats 4000000 in
set_option maxRecDepth 100000 in
theorem h_check_x1 (l : Launch) (G : Gx) (sw : va_W) (r0 : Nat) (p0 : Int32) (o : Nat) (g : Nat → Int64) (rmc : Room) (hf9 : rmc.frames + 1 ≤ 9) (hl9 : 8 + (7 + 11) + rmc.locals ≤ 330) (hrec : ∃ (i ci : Nat) (fs : List Value) (z : vw_C), sw[i]? = some (r0, .inr (ci, fs)) ∧ vwCl[ci]? = some z ∧ z.1 = RX2) (hM : MX l yX2_check wsX2_check rmc [.ref r0, .int p0] G sw "java/lang/IllegalArgumentException") : MI l yL_check wsL_check ({ frames := 9, cells := rmc.cells, slots := rmc.slots, locals := 330 } : Room) [.ref r0, .int p0, .ref o] G (sw ++ outC G o g) (fun u => sw ++ outC G o g) 1 := by
  refine ofLI (cc := cL_check) (maxL := 4) (ret := (some .int)) (hh := [(0, 9, 12, 13), (0, 9, 15, 15)]) (by decide) rfl (Nat.le_of_ble_eq_true rfl) (fun p e s m below meth c A ls F hr htb hH hl => ?_)
  have F : Fx G p s m _ meth c cL_check 4 wsL_check RL A := F
  have hx := F.1.1
  have hb := F.1.2.1
  have hl : lv_has ls 4 [(0, .ref r0), (1, .int p0), (2, .ref o)] := hl
  refine lv_aload_n hx hb dL_check_0 rfl (lv_at hl 2 rfl) ?_
  refine lv_iconst (v := 0) hx hb dL_check_1 (by decide) ?_
  refine lv_aload_n hx hb dL_check_2 rfl (lv_at hl 0 rfl) ?_
  refine lv_iload_n hx hb dL_check_3 rfl (lv_at hl 1 rfl) ?_
  refine callVX (a := []) (b := (outC G o g)) (rest := [.int 0, .ref o]) F hM gL_check_X2_check rfl hdX2_check ⟨hf9, hl9⟩ hH (by simp) hrec rfl hl.1 (Nat.le_of_ble_eq_true rfl) dL_check_4 ⟨by show 0 + rmc.cells ≤ rmc.cells; omega, by show 0 + rmc.slots ≤ rmc.slots; omega⟩ rfl (fun ce q9 H locs hH h1 h2 h3 => ?_)
  refine vx_catch (own := RL) (name := "java/lang/IllegalArgumentException") (E := "java/lang/IllegalArgumentException") F.1.2.2.2.1 [] ⟨0, 9, 12, 13⟩ [⟨0, 9, 15, 15⟩] (htb.trans rfl) (fun z hz => absurd hz List.not_mem_nil) rfl (by decide) (F.1.2.2.2.2 (.classLink RL 13 "java/lang/IllegalArgumentException") (by decide +kernel)) (va_tabs rfl rfl (F.2.2.2.1.2.2.2.1 (.castable "java/lang/IllegalArgumentException" "java/lang/IllegalArgumentException") (by decide +kernel))) h1 h2 h3 ?_
  refine lv_astore_n (lv' := [(3, .ref q9), (0, .ref r0), (1, .int p0), (2, .ref o)]) hx hb dL_check_12 rfl hl (by decide) rfl (fun ls hl => ?_)
  refine lv_iconst (v := 1) hx hb dL_check_13 (by decide) ?_
  exact retI F hr rfl (fun _ => 0) hH rfl (by show 0 + rmc.cells ≤ rmc.cells; omega) (by show 0 + rmc.slots ≤ rmc.slots; omega) dL_check_14

set_option maxHeartbeats 4000000 in
set_option maxRecDepth 100000 in
theorem h_check_x2 (l : Launch) (G : Gx) (sw : va_W) (r0 : Nat) (p0 : Int32) (o : Nat) (g : Nat → Int64) (rmc : Room) (hf9 : rmc.frames + 1 ≤ 9) (hl9 : 8 + (7 + 11) + rmc.locals ≤ 330) (hrec : ∃ (i ci : Nat) (fs : List Value) (z : vw_C), sw[i]? = some (r0, .inr (ci, fs)) ∧ vwCl[ci]? = some z ∧ z.1 = RX2) (hM : MX l yX2_check wsX2_check rmc [.ref r0, .int p0] G sw "java/lang/IllegalStateException") : MI l yL_check wsL_check ({ frames := 9, cells := rmc.cells, slots := rmc.slots, locals := 330 } : Room) [.ref r0, .int p0, .ref o] G (sw ++ outC G o g) (fun u => sw ++ outC G o g) 2 := by
  refine ofLI (cc := cL_check) (maxL := 4) (ret := (some .int)) (hh := [(0, 9, 12, 13), (0, 9, 15, 15)]) (by decide) rfl (Nat.le_of_ble_eq_true rfl) (fun p e s m below meth c A ls F hr htb hH hl => ?_)
  have F : Fx G p s m _ meth c cL_check 4 wsL_check RL A := F
  have hx := F.1.1
  have hb := F.1.2.1
  have hl : lv_has ls 4 [(0, .ref r0), (1, .int p0), (2, .ref o)] := hl
  refine lv_aload_n hx hb dL_check_0 rfl (lv_at hl 2 rfl) ?_
  refine lv_iconst (v := 0) hx hb dL_check_1 (by decide) ?_
  refine lv_aload_n hx hb dL_check_2 rfl (lv_at hl 0 rfl) ?_
  refine lv_iload_n hx hb dL_check_3 rfl (lv_at hl 1 rfl) ?_
  refine callVX (a := []) (b := (outC G o g)) (rest := [.int 0, .ref o]) F hM gL_check_X2_check rfl hdX2_check ⟨hf9, hl9⟩ hH (by simp) hrec rfl hl.1 (Nat.le_of_ble_eq_true rfl) dL_check_4 ⟨by show 0 + rmc.cells ≤ rmc.cells; omega, by show 0 + rmc.slots ≤ rmc.slots; omega⟩ rfl (fun ce q9 H locs hH h1 h2 h3 => ?_)
  refine vx_catch (own := RL) (name := "java/lang/IllegalStateException") (E := "java/lang/IllegalStateException") F.1.2.2.2.1 [⟨0, 9, 12, 13⟩] ⟨0, 9, 15, 15⟩ [] (htb.trans rfl) ?_ rfl (by decide) (F.1.2.2.2.2 (.classLink RL 15 "java/lang/IllegalStateException") (by decide +kernel)) (va_tabs rfl rfl (F.2.2.2.1.2.2.2.1 (.castable "java/lang/IllegalStateException" "java/lang/IllegalStateException") (by decide +kernel))) h1 h2 h3 ?_
  · intro z hz
    have hz := List.mem_singleton.mp hz
    subst hz
    exact Or.inr ⟨by decide, "java/lang/IllegalArgumentException", F.1.2.2.2.2 (.classLink RL 13 "java/lang/IllegalArgumentException") (by decide +kernel), F.2.2.2.1.2.2.2.2 ("java/lang/IllegalStateException", "java/lang/IllegalArgumentException") (by decide)⟩
  refine lv_astore_n (lv' := [(3, .ref q9), (0, .ref r0), (1, .int p0), (2, .ref o)]) hx hb dL_check_15 rfl hl (by decide) rfl (fun ls hl => ?_)
  refine lv_iconst (v := 2) hx hb dL_check_16 (by decide) ?_
  exact retI F hr rfl (fun _ => 0) hH rfl (by show 0 + rmc.cells ≤ rmc.cells; omega) (by show 0 + rmc.slots ≤ rmc.slots; omega) dL_check_17

set_option maxHeartbeats 4000000 in
set_option maxRecDepth 100000 in
theorem h_owes_ok (l : Launch) (G : Gx) (sw : va_W) (r0 : Nat) (p0 : Int32) (o : Nat) (g : Nat → Int64) (rmc : Room) (hf9 : rmc.frames + 1 ≤ 9) (hl9 : 8 + (2 + 11) + rmc.locals ≤ 330) (hrec : ∃ (i ci : Nat) (fs : List Value) (z : vw_C), sw[i]? = some (r0, .inr (ci, fs)) ∧ vwCl[ci]? = some z ∧ z.1 = RX2) (sw2 : (Nat → Nat) → va_W) (ans : Int32) (hM : MI l yX2_owes wsX2_owes rmc [.ref r0, .int p0] G sw sw2 ans) : MI l yL_owes wsL_owes ({ frames := 9, cells := rmc.cells, slots := rmc.slots, locals := 330 } : Room) [.ref r0, .int p0, .ref o] G (sw ++ outC G o g) (fun u => sw2 u ++ outC G o (vp_updL g 0 ans.toInt64)) 0 := by
  refine ofLI (cc := cL_owes) (maxL := 4) (ret := (some .int)) (hh := [(0, 9, 12, 21)]) (by decide) rfl (Nat.le_of_ble_eq_true rfl) (fun p e s m below meth c A ls F hr htb hH hl => ?_)
  have F : Fx G p s m _ meth c cL_owes 4 wsL_owes RL A := F
  have hx := F.1.1
  have hb := F.1.2.1
  have hl : lv_has ls 4 [(0, .ref r0), (1, .int p0), (2, .ref o)] := hl
  refine lv_aload_n hx hb dL_owes_0 rfl (lv_at hl 2 rfl) ?_
  refine lv_iconst (v := 0) hx hb dL_owes_1 (by decide) ?_
  refine lv_aload_n hx hb dL_owes_2 rfl (lv_at hl 0 rfl) ?_
  refine lv_iload_n hx hb dL_owes_3 rfl (lv_at hl 1 rfl) ?_
  refine callVI (a := []) (b := (outC G o g)) (rest := [.int 0, .ref o]) F hM gL_owes_X2_owes rfl hdX2_owes ⟨hf9, hl9⟩ hH (by simp) hrec rfl hl.1 (Nat.le_of_ble_eq_true rfl) dL_owes_4 ⟨by show 0 + rmc.cells ≤ rmc.cells; omega, by show 0 + rmc.slots ≤ rmc.slots; omega⟩ rfl (fun u H locs hH => ?_)
  have hH : HH G A s (sw2 u ++ outC G o g ++ []) H locs := by rw [List.nil_append] at hH; rw [List.append_nil]; exact hH
  refine lv_i2l hx hb dL_owes_7 rfl ?_
  refine rlast F hH ((sw2 u).length + 0) (n := 1) (f := g) (mid_at (k := 0) rfl) 0 rfl (by decide) (by decide) dL_owes_8 (fun H locs hH => ?_)
  have hH : HH G A s (sw2 u ++ outC G o (vp_updL g 0 ans.toInt64)) H locs := by rw [mid_set (Nat.zero_lt_succ _), List.append_nil] at hH; exact hH
  refine lv_goto (tgt := 15) hx hb dL_owes_9 (by decide) ?_
  refine lv_iconst (v := 0) hx hb dL_owes_15 (by decide) ?_
  exact retI F hr rfl u hH rfl (by show 0 + rmc.cells ≤ rmc.cells; omega) (by show 0 + rmc.slots ≤ rmc.slots; omega) dL_owes_16

set_option maxHeartbeats 4000000 in
set_option maxRecDepth 100000 in
theorem h_owes_x1 (l : Launch) (G : Gx) (sw : va_W) (r0 : Nat) (p0 : Int32) (o : Nat) (g : Nat → Int64) (rmc : Room) (hf9 : rmc.frames + 1 ≤ 9) (hl9 : 8 + (2 + 11) + rmc.locals ≤ 330) (hrec : ∃ (i ci : Nat) (fs : List Value) (z : vw_C), sw[i]? = some (r0, .inr (ci, fs)) ∧ vwCl[ci]? = some z ∧ z.1 = RX2) (hM : MX l yX2_owes wsX2_owes rmc [.ref r0, .int p0] G sw "java/lang/IndexOutOfBoundsException") : MI l yL_owes wsL_owes ({ frames := 9, cells := rmc.cells, slots := rmc.slots, locals := 330 } : Room) [.ref r0, .int p0, .ref o] G (sw ++ outC G o g) (fun u => sw ++ outC G o g) 1 := by
  refine ofLI (cc := cL_owes) (maxL := 4) (ret := (some .int)) (hh := [(0, 9, 12, 21)]) (by decide) rfl (Nat.le_of_ble_eq_true rfl) (fun p e s m below meth c A ls F hr htb hH hl => ?_)
  have F : Fx G p s m _ meth c cL_owes 4 wsL_owes RL A := F
  have hx := F.1.1
  have hb := F.1.2.1
  have hl : lv_has ls 4 [(0, .ref r0), (1, .int p0), (2, .ref o)] := hl
  refine lv_aload_n hx hb dL_owes_0 rfl (lv_at hl 2 rfl) ?_
  refine lv_iconst (v := 0) hx hb dL_owes_1 (by decide) ?_
  refine lv_aload_n hx hb dL_owes_2 rfl (lv_at hl 0 rfl) ?_
  refine lv_iload_n hx hb dL_owes_3 rfl (lv_at hl 1 rfl) ?_
  refine callVX (a := []) (b := (outC G o g)) (rest := [.int 0, .ref o]) F hM gL_owes_X2_owes rfl hdX2_owes ⟨hf9, hl9⟩ hH (by simp) hrec rfl hl.1 (Nat.le_of_ble_eq_true rfl) dL_owes_4 ⟨by show 0 + rmc.cells ≤ rmc.cells; omega, by show 0 + rmc.slots ≤ rmc.slots; omega⟩ rfl (fun ce q9 H locs hH h1 h2 h3 => ?_)
  refine vx_catch (own := RL) (name := "java/lang/IndexOutOfBoundsException") (E := "java/lang/IndexOutOfBoundsException") F.1.2.2.2.1 [] ⟨0, 9, 12, 21⟩ [] (htb.trans rfl) (fun z hz => absurd hz List.not_mem_nil) rfl (by decide) (F.1.2.2.2.2 (.classLink RL 21 "java/lang/IndexOutOfBoundsException") (by decide +kernel)) (va_tabs rfl rfl (F.2.2.2.1.2.2.2.1 (.castable "java/lang/IndexOutOfBoundsException" "java/lang/IndexOutOfBoundsException") (by decide +kernel))) h1 h2 h3 ?_
  refine lv_astore_n (lv' := [(3, .ref q9), (0, .ref r0), (1, .int p0), (2, .ref o)]) hx hb dL_owes_12 rfl hl (by decide) rfl (fun ls hl => ?_)
  refine lv_iconst (v := 1) hx hb dL_owes_13 (by decide) ?_
  exact retI F hr rfl (fun _ => 0) hH rfl (by show 0 + rmc.cells ≤ rmc.cells; omega) (by show 0 + rmc.slots ≤ rmc.slots; omega) dL_owes_14

set_option maxHeartbeats 4000000 in
set_option maxRecDepth 100000 in
theorem h_net_ok (l : Launch) (G : Gx) (sw : va_W) (r0 : Nat) (p0 : Int32) (o : Nat) (g : Nat → Int64) (rmc : Room) (hf9 : rmc.frames + 1 ≤ 9) (hl9 : 8 + (3 + 11) + rmc.locals ≤ 330) (hrec : ∃ (i ci : Nat) (fs : List Value) (z : vw_C), sw[i]? = some (r0, .inr (ci, fs)) ∧ vwCl[ci]? = some z ∧ z.1 = RX2) (sw2 : (Nat → Nat) → va_W) (ans : Int32) (hM : MI l yX2_net wsX2_net rmc [.ref r0, .int p0] G sw sw2 ans) : MI l yL_net wsL_net ({ frames := 9, cells := rmc.cells, slots := rmc.slots, locals := 330 } : Room) [.ref r0, .int p0, .ref o] G (sw ++ outC G o g) (fun u => sw2 u ++ outC G o (vp_updL g 0 ans.toInt64)) 0 := by
  refine ofLI (cc := cL_net) (maxL := 4) (ret := (some .int)) (hh := [(0, 9, 12, 21)]) (by decide) rfl (Nat.le_of_ble_eq_true rfl) (fun p e s m below meth c A ls F hr htb hH hl => ?_)
  have F : Fx G p s m _ meth c cL_net 4 wsL_net RL A := F
  have hx := F.1.1
  have hb := F.1.2.1
  have hl : lv_has ls 4 [(0, .ref r0), (1, .int p0), (2, .ref o)] := hl
  refine lv_aload_n hx hb dL_net_0 rfl (lv_at hl 2 rfl) ?_
  refine lv_iconst (v := 0) hx hb dL_net_1 (by decide) ?_
  refine lv_aload_n hx hb dL_net_2 rfl (lv_at hl 0 rfl) ?_
  refine lv_iload_n hx hb dL_net_3 rfl (lv_at hl 1 rfl) ?_
  refine callVI (a := []) (b := (outC G o g)) (rest := [.int 0, .ref o]) F hM gL_net_X2_net rfl hdX2_net ⟨hf9, hl9⟩ hH (by simp) hrec rfl hl.1 (Nat.le_of_ble_eq_true rfl) dL_net_4 ⟨by show 0 + rmc.cells ≤ rmc.cells; omega, by show 0 + rmc.slots ≤ rmc.slots; omega⟩ rfl (fun u H locs hH => ?_)
  have hH : HH G A s (sw2 u ++ outC G o g ++ []) H locs := by rw [List.nil_append] at hH; rw [List.append_nil]; exact hH
  refine lv_i2l hx hb dL_net_7 rfl ?_
  refine rlast F hH ((sw2 u).length + 0) (n := 1) (f := g) (mid_at (k := 0) rfl) 0 rfl (by decide) (by decide) dL_net_8 (fun H locs hH => ?_)
  have hH : HH G A s (sw2 u ++ outC G o (vp_updL g 0 ans.toInt64)) H locs := by rw [mid_set (Nat.zero_lt_succ _), List.append_nil] at hH; exact hH
  refine lv_goto (tgt := 15) hx hb dL_net_9 (by decide) ?_
  refine lv_iconst (v := 0) hx hb dL_net_15 (by decide) ?_
  exact retI F hr rfl u hH rfl (by show 0 + rmc.cells ≤ rmc.cells; omega) (by show 0 + rmc.slots ≤ rmc.slots; omega) dL_net_16

set_option maxHeartbeats 4000000 in
set_option maxRecDepth 100000 in
theorem h_net_x1 (l : Launch) (G : Gx) (sw : va_W) (r0 : Nat) (p0 : Int32) (o : Nat) (g : Nat → Int64) (rmc : Room) (hf9 : rmc.frames + 1 ≤ 9) (hl9 : 8 + (3 + 11) + rmc.locals ≤ 330) (hrec : ∃ (i ci : Nat) (fs : List Value) (z : vw_C), sw[i]? = some (r0, .inr (ci, fs)) ∧ vwCl[ci]? = some z ∧ z.1 = RX2) (hM : MX l yX2_net wsX2_net rmc [.ref r0, .int p0] G sw "java/lang/IndexOutOfBoundsException") : MI l yL_net wsL_net ({ frames := 9, cells := rmc.cells, slots := rmc.slots, locals := 330 } : Room) [.ref r0, .int p0, .ref o] G (sw ++ outC G o g) (fun u => sw ++ outC G o g) 1 := by
  refine ofLI (cc := cL_net) (maxL := 4) (ret := (some .int)) (hh := [(0, 9, 12, 21)]) (by decide) rfl (Nat.le_of_ble_eq_true rfl) (fun p e s m below meth c A ls F hr htb hH hl => ?_)
  have F : Fx G p s m _ meth c cL_net 4 wsL_net RL A := F
  have hx := F.1.1
  have hb := F.1.2.1
  have hl : lv_has ls 4 [(0, .ref r0), (1, .int p0), (2, .ref o)] := hl
  refine lv_aload_n hx hb dL_net_0 rfl (lv_at hl 2 rfl) ?_
  refine lv_iconst (v := 0) hx hb dL_net_1 (by decide) ?_
  refine lv_aload_n hx hb dL_net_2 rfl (lv_at hl 0 rfl) ?_
  refine lv_iload_n hx hb dL_net_3 rfl (lv_at hl 1 rfl) ?_
  refine callVX (a := []) (b := (outC G o g)) (rest := [.int 0, .ref o]) F hM gL_net_X2_net rfl hdX2_net ⟨hf9, hl9⟩ hH (by simp) hrec rfl hl.1 (Nat.le_of_ble_eq_true rfl) dL_net_4 ⟨by show 0 + rmc.cells ≤ rmc.cells; omega, by show 0 + rmc.slots ≤ rmc.slots; omega⟩ rfl (fun ce q9 H locs hH h1 h2 h3 => ?_)
  refine vx_catch (own := RL) (name := "java/lang/IndexOutOfBoundsException") (E := "java/lang/IndexOutOfBoundsException") F.1.2.2.2.1 [] ⟨0, 9, 12, 21⟩ [] (htb.trans rfl) (fun z hz => absurd hz List.not_mem_nil) rfl (by decide) (F.1.2.2.2.2 (.classLink RL 21 "java/lang/IndexOutOfBoundsException") (by decide +kernel)) (va_tabs rfl rfl (F.2.2.2.1.2.2.2.1 (.castable "java/lang/IndexOutOfBoundsException" "java/lang/IndexOutOfBoundsException") (by decide +kernel))) h1 h2 h3 ?_
  refine lv_astore_n (lv' := [(3, .ref q9), (0, .ref r0), (1, .int p0), (2, .ref o)]) hx hb dL_net_12 rfl hl (by decide) rfl (fun ls hl => ?_)
  refine lv_iconst (v := 1) hx hb dL_net_13 (by decide) ?_
  exact retI F hr rfl (fun _ => 0) hH rfl (by show 0 + rmc.cells ≤ rmc.cells; omega) (by show 0 + rmc.slots ≤ rmc.slots; omega) dL_net_14
