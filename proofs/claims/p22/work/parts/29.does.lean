theorem hdL_all : yL_all.cls = RL ∧ yL_all.cls ≠ "java/lang/invoke/MethodHandle" ∧ yL_all.cls ≠ "java/lang/invoke/VarHandle" ∧ (parseMethodDescriptor yL_all.desc).map (fun d => d.parameters.length) = some 1 := by decide +kernel
theorem hdL_call : yL_call.cls = RL ∧ yL_call.cls ≠ "java/lang/invoke/MethodHandle" ∧ yL_call.cls ≠ "java/lang/invoke/VarHandle" ∧ (parseMethodDescriptor yL_call.desc).map (fun d => d.parameters.length) = some 6 := by decide +kernel
theorem hdL_cell : yL_cell.cls = RL ∧ yL_cell.cls ≠ "java/lang/invoke/MethodHandle" ∧ yL_cell.cls ≠ "java/lang/invoke/VarHandle" ∧ (parseMethodDescriptor yL_cell.desc).map (fun d => d.parameters.length) = some 2 := by decide +kernel
theorem hdL_checks : yL_checks.cls = RL ∧ yL_checks.cls ≠ "java/lang/invoke/MethodHandle" ∧ yL_checks.cls ≠ "java/lang/invoke/VarHandle" ∧ (parseMethodDescriptor yL_checks.desc).map (fun d => d.parameters.length) = some 4 := by decide +kernel
theorem hdL_courses : yL_courses.cls = RL ∧ yL_courses.cls ≠ "java/lang/invoke/MethodHandle" ∧ yL_courses.cls ≠ "java/lang/invoke/VarHandle" ∧ (parseMethodDescriptor yL_courses.desc).map (fun d => d.parameters.length) = some 5 := by decide +kernel
theorem hdL_does : yL_does.cls = RL ∧ yL_does.cls ≠ "java/lang/invoke/MethodHandle" ∧ yL_does.cls ≠ "java/lang/invoke/VarHandle" ∧ (parseMethodDescriptor yL_does.desc).map (fun d => d.parameters.length) = some 6 := by decide +kernel
theorem hdL_kept : yL_kept.cls = RL ∧ yL_kept.cls ≠ "java/lang/invoke/MethodHandle" ∧ yL_kept.cls ≠ "java/lang/invoke/VarHandle" ∧ (parseMethodDescriptor yL_kept.desc).map (fun d => d.parameters.length) = some 1 := by decide +kernel
theorem hdL_notices : yL_notices.cls = RL ∧ yL_notices.cls ≠ "java/lang/invoke/MethodHandle" ∧ yL_notices.cls ≠ "java/lang/invoke/VarHandle" ∧ (parseMethodDescriptor yL_notices.desc).map (fun d => d.parameters.length) = some 4 := by decide +kernel
theorem hdL_passes : yL_passes.cls = RL ∧ yL_passes.cls ≠ "java/lang/invoke/MethodHandle" ∧ yL_passes.cls ≠ "java/lang/invoke/VarHandle" ∧ (parseMethodDescriptor yL_passes.desc).map (fun d => d.parameters.length) = some 2 := by decide +kernel
theorem hdL_some : yL_some.cls = RL ∧ yL_some.cls ≠ "java/lang/invoke/MethodHandle" ∧ yL_some.cls ≠ "java/lang/invoke/VarHandle" ∧ (parseMethodDescriptor yL_some.desc).map (fun d => d.parameters.length) = some 2 := by decide +kernel
theorem hdX2_add : yX2_add.cls = RX2 ∧ yX2_add.cls ≠ "java/lang/invoke/MethodHandle" ∧ yX2_add.cls ≠ "java/lang/invoke/VarHandle" ∧ (parseMethodDescriptor yX2_add.desc).map (fun d => d.parameters.length) = some 2 := by decide +kernel
theorem hdX2_addCourse : yX2_addCourse.cls = RX2 ∧ yX2_addCourse.cls ≠ "java/lang/invoke/MethodHandle" ∧ yX2_addCourse.cls ≠ "java/lang/invoke/VarHandle" ∧ (parseMethodDescriptor yX2_addCourse.desc).map (fun d => d.parameters.length) = some 4 := by decide +kernel
theorem hdX2_check : yX2_check.cls = RX2 ∧ yX2_check.cls ≠ "java/lang/invoke/MethodHandle" ∧ yX2_check.cls ≠ "java/lang/invoke/VarHandle" ∧ (parseMethodDescriptor yX2_check.desc).map (fun d => d.parameters.length) = some 1 := by decide +kernel
theorem hdX2_cut : yX2_cut.cls = RX2 ∧ yX2_cut.cls ≠ "java/lang/invoke/MethodHandle" ∧ yX2_cut.cls ≠ "java/lang/invoke/VarHandle" ∧ (parseMethodDescriptor yX2_cut.desc).map (fun d => d.parameters.length) = some 2 := by decide +kernel
theorem hdX2_cutWeeks : yX2_cutWeeks.cls = RX2 ∧ yX2_cutWeeks.cls ≠ "java/lang/invoke/MethodHandle" ∧ yX2_cutWeeks.cls ≠ "java/lang/invoke/VarHandle" ∧ (parseMethodDescriptor yX2_cutWeeks.desc).map (fun d => d.parameters.length) = some 1 := by decide +kernel
theorem hdX2_door : yX2_door.cls = RX2 ∧ yX2_door.cls ≠ "java/lang/invoke/MethodHandle" ∧ yX2_door.cls ≠ "java/lang/invoke/VarHandle" ∧ (parseMethodDescriptor yX2_door.desc).map (fun d => d.parameters.length) = some 3 := by decide +kernel
theorem hdX2_enrol : yX2_enrol.cls = RX2 ∧ yX2_enrol.cls ≠ "java/lang/invoke/MethodHandle" ∧ yX2_enrol.cls ≠ "java/lang/invoke/VarHandle" ∧ (parseMethodDescriptor yX2_enrol.desc).map (fun d => d.parameters.length) = some 2 := by decide +kernel
theorem hdX2_firmOwes : yX2_firmOwes.cls = RX2 ∧ yX2_firmOwes.cls ≠ "java/lang/invoke/MethodHandle" ∧ yX2_firmOwes.cls ≠ "java/lang/invoke/VarHandle" ∧ (parseMethodDescriptor yX2_firmOwes.desc).map (fun d => d.parameters.length) = some 0 := by decide +kernel
theorem hdX2_isFilled : yX2_isFilled.cls = RX2 ∧ yX2_isFilled.cls ≠ "java/lang/invoke/MethodHandle" ∧ yX2_isFilled.cls ≠ "java/lang/invoke/VarHandle" ∧ (parseMethodDescriptor yX2_isFilled.desc).map (fun d => d.parameters.length) = some 2 := by decide +kernel
theorem hdX2_madeUp : yX2_madeUp.cls = RX2 ∧ yX2_madeUp.cls ≠ "java/lang/invoke/MethodHandle" ∧ yX2_madeUp.cls ≠ "java/lang/invoke/VarHandle" ∧ (parseMethodDescriptor yX2_madeUp.desc).map (fun d => d.parameters.length) = some 2 := by decide +kernel
theorem hdX2_mail : yX2_mail.cls = RX2 ∧ yX2_mail.cls ≠ "java/lang/invoke/MethodHandle" ∧ yX2_mail.cls ≠ "java/lang/invoke/VarHandle" ∧ (parseMethodDescriptor yX2_mail.desc).map (fun d => d.parameters.length) = some 2 := by decide +kernel
theorem hdX2_net : yX2_net.cls = RX2 ∧ yX2_net.cls ≠ "java/lang/invoke/MethodHandle" ∧ yX2_net.cls ≠ "java/lang/invoke/VarHandle" ∧ (parseMethodDescriptor yX2_net.desc).map (fun d => d.parameters.length) = some 1 := by decide +kernel
theorem hdX2_notice : yX2_notice.cls = RX2 ∧ yX2_notice.cls ≠ "java/lang/invoke/MethodHandle" ∧ yX2_notice.cls ≠ "java/lang/invoke/VarHandle" ∧ (parseMethodDescriptor yX2_notice.desc).map (fun d => d.parameters.length) = some 4 := by decide +kernel
theorem hdX2_owes : yX2_owes.cls = RX2 ∧ yX2_owes.cls ≠ "java/lang/invoke/MethodHandle" ∧ yX2_owes.cls ≠ "java/lang/invoke/VarHandle" ∧ (parseMethodDescriptor yX2_owes.desc).map (fun d => d.parameters.length) = some 1 := by decide +kernel
theorem hdX2_paid : yX2_paid.cls = RX2 ∧ yX2_paid.cls ≠ "java/lang/invoke/MethodHandle" ∧ yX2_paid.cls ≠ "java/lang/invoke/VarHandle" ∧ (parseMethodDescriptor yX2_paid.desc).map (fun d => d.parameters.length) = some 2 := by decide +kernel
theorem hdX2_pass : yX2_pass.cls = RX2 ∧ yX2_pass.cls ≠ "java/lang/invoke/MethodHandle" ∧ yX2_pass.cls ≠ "java/lang/invoke/VarHandle" ∧ (parseMethodDescriptor yX2_pass.desc).map (fun d => d.parameters.length) = some 1 := by decide +kernel
theorem hdX2_setFloor : yX2_setFloor.cls = RX2 ∧ yX2_setFloor.cls ≠ "java/lang/invoke/MethodHandle" ∧ yX2_setFloor.cls ≠ "java/lang/invoke/VarHandle" ∧ (parseMethodDescriptor yX2_setFloor.desc).map (fun d => d.parameters.length) = some 1 := by decide +kernel
theorem hdX2_week : yX2_week.cls = RX2 ∧ yX2_week.cls ≠ "java/lang/invoke/MethodHandle" ∧ yX2_week.cls ≠ "java/lang/invoke/VarHandle" ∧ (parseMethodDescriptor yX2_week.desc).map (fun d => d.parameters.length) = some 0 := by decide +kernel
theorem hdX2_workers : yX2_workers.cls = RX2 ∧ yX2_workers.cls ≠ "java/lang/invoke/MethodHandle" ∧ yX2_workers.cls ≠ "java/lang/invoke/VarHandle" ∧ (parseMethodDescriptor yX2_workers.desc).map (fun d => d.parameters.length) = some 0 := by decide +kernel

set_option maxHeartbeats 4000000 in
set_option maxRecDepth 100000 in
theorem does_add_x (l : Launch) (G : Gx) (sw : va_W) (r0 : Nat) (a b c d : Int32) (rmc : Room) (hc9 : rmc.frames ≤ 7 ∧ rmc.cells ≤ 1 ∧ rmc.slots ≤ 6 ∧ rmc.locals ≤ 112) (hrec : ∃ (i ci : Nat) (fs : List Value) (z : vw_C), sw[i]? = some (r0, .inr (ci, fs)) ∧ vwCl[ci]? = some z ∧ z.1 = RX2) (w : Int32) (hw : (b = 1 ∧ w = 1) ∨ (¬ b = 1 ∧ w = 0)) (E : String) (hM : MX l yX2_add wsX2_add rmc [.ref r0, .int a, .int w] G sw E) : MX l yL_does wsL_does ({ frames := 8, cells := 1, slots := 6, locals := 150 } : Room) [.ref r0, .int 0, .int a, .int b, .int c, .int d] G sw E := by
  refine ofMX (cc := cL_does) (maxL := 6) (ret := (some .int)) (by decide) rfl (Nat.le_of_ble_eq_true rfl) (fun p e s m below meth c9 A ls F htb hH hl => ?_)
  have F : Fx G p s m _ meth c9 cL_does 6 wsL_does RL A := F
  have hx := F.1.1
  have hb := F.1.2.1
  obtain ⟨q1, q2, q3, q4⟩ := hc9
  have hl : lv_has ls 6 [(0, .ref r0), (1, .int 0), (2, .int a), (3, .int b), (4, .int c), (5, .int d)] := hl
  refine lv_iload_n hx hb dL_does_0 rfl (lv_at hl 1 rfl) ?_
  refine lv_tableIn (off := 75) (tgt := 76) hx hb dL_does_1 (by decide) (by decide) (by decide) (by decide) ?_
  refine lv_aload_n hx hb dL_does_76 rfl (lv_at hl 0 rfl) ?_
  refine lv_iload_n hx hb dL_does_77 rfl (lv_at hl 2 rfl) ?_
  refine lv_iload_n hx hb dL_does_78 rfl (lv_at hl 3 rfl) ?_
  refine lv_iconst (v := 1) hx hb dL_does_79 (by decide) ?_
  rcases hw with ⟨w1, w2⟩ | ⟨w1, w2⟩
  · subst w2
    refine lv_icmp_ne (tgt := 87) hx hb dL_does_80 (by decide) (fun c_ => absurd w1 c_) (fun c_ => ?_)
    refine lv_iconst (v := 1) hx hb dL_does_83 (by decide) ?_
    refine lv_goto (tgt := 88) hx hb dL_does_84 (by decide) ?_
    exact callVX0 (rest := []) F hM gL_does_X2_add rfl hdX2_add ⟨by show rmc.frames + 1 ≤ 8; omega, by show 8 + (4 + 11) + rmc.locals ≤ 150; omega⟩ hH hrec rfl hl.1 (Nat.le_of_ble_eq_true rfl) dL_does_88 ⟨by show 0 + rmc.cells ≤ 1; omega, by show 0 + rmc.slots ≤ 6; omega⟩ rfl htb (by show 0 + rmc.cells ≤ 1; omega) (by show 0 + rmc.slots ≤ 6; omega)
  · subst w2
    refine lv_icmp_ne (tgt := 87) hx hb dL_does_80 (by decide) (fun c_ => ?_) (fun c_ => absurd c_ w1)
    refine lv_iconst (v := 0) hx hb dL_does_87 (by decide) ?_
    exact callVX0 (rest := []) F hM gL_does_X2_add rfl hdX2_add ⟨by show rmc.frames + 1 ≤ 8; omega, by show 8 + (4 + 11) + rmc.locals ≤ 150; omega⟩ hH hrec rfl hl.1 (Nat.le_of_ble_eq_true rfl) dL_does_88 ⟨by show 0 + rmc.cells ≤ 1; omega, by show 0 + rmc.slots ≤ 6; omega⟩ rfl htb (by show 0 + rmc.cells ≤ 1; omega) (by show 0 + rmc.slots ≤ 6; omega)

set_option maxHeartbeats 4000000 in
set_option maxRecDepth 100000 in
theorem does_notice_ok (l : Launch) (G : Gx) (sw : va_W) (r0 : Nat) (a b c d : Int32) (rmc : Room) (hc9 : rmc.frames ≤ 7 ∧ rmc.cells ≤ 1 ∧ rmc.slots ≤ 6 ∧ rmc.locals ≤ 112) (hrec : ∃ (i ci : Nat) (fs : List Value) (z : vw_C), sw[i]? = some (r0, .inr (ci, fs)) ∧ vwCl[ci]? = some z ∧ z.1 = RX2) (sw2 : (Nat → Nat) → va_W) (ans : Int32) (hM : MI l yX2_notice wsX2_notice rmc [.ref r0, .int a, .int b, .int c, .int d] G sw sw2 ans) : MI l yL_does wsL_does ({ frames := 8, cells := 1, slots := 6, locals := 150 } : Room) [.ref r0, .int 1, .int a, .int b, .int c, .int d] G sw (fun u => sw2 u) ans := by
  refine ofMI (cc := cL_does) (maxL := 6) (ret := (some .int)) (by decide) rfl (Nat.le_of_ble_eq_true rfl) (fun p e s m below meth c9 A ls F hr hnm hH hl => ?_)
  have F : Fx G p s m _ meth c9 cL_does 6 wsL_does RL A := F
  have hx := F.1.1
  have hb := F.1.2.1
  obtain ⟨q1, q2, q3, q4⟩ := hc9
  have hl : lv_has ls 6 [(0, .ref r0), (1, .int 1), (2, .int a), (3, .int b), (4, .int c), (5, .int d)] := hl
  refine lv_iload_n hx hb dL_does_0 rfl (lv_at hl 1 rfl) ?_
  refine lv_tableIn (off := 91) (tgt := 92) hx hb dL_does_1 (by decide) (by decide) (by decide) (by decide) ?_
  refine lv_aload_n hx hb dL_does_92 rfl (lv_at hl 0 rfl) ?_
  refine lv_iload_n hx hb dL_does_93 rfl (lv_at hl 2 rfl) ?_
  refine lv_iload_n hx hb dL_does_94 rfl (lv_at hl 3 rfl) ?_
  refine lv_iload hx hb dL_does_95 (lv_at hl 4 rfl) ?_
  refine lv_iload hx hb dL_does_97 (lv_at hl 5 rfl) ?_
  refine callVI0 (rest := []) F hM gL_does_X2_notice rfl hdX2_notice ⟨by show rmc.frames + 1 ≤ 8; omega, by show 8 + (6 + 11) + rmc.locals ≤ 150; omega⟩ hH hrec rfl hl.1 (Nat.le_of_ble_eq_true rfl) dL_does_99 ⟨by show 0 + rmc.cells ≤ 1; omega, by show 0 + rmc.slots ≤ 6; omega⟩ rfl (fun u H locs hH => ?_)
  exact retI F hr rfl u hH rfl (by show 0 + rmc.cells ≤ 1; omega) (by show 0 + rmc.slots ≤ 6; omega) dL_does_102

set_option maxHeartbeats 4000000 in
set_option maxRecDepth 100000 in
theorem does_notice_x (l : Launch) (G : Gx) (sw : va_W) (r0 : Nat) (a b c d : Int32) (rmc : Room) (hc9 : rmc.frames ≤ 7 ∧ rmc.cells ≤ 1 ∧ rmc.slots ≤ 6 ∧ rmc.locals ≤ 112) (hrec : ∃ (i ci : Nat) (fs : List Value) (z : vw_C), sw[i]? = some (r0, .inr (ci, fs)) ∧ vwCl[ci]? = some z ∧ z.1 = RX2) (E : String) (hM : MX l yX2_notice wsX2_notice rmc [.ref r0, .int a, .int b, .int c, .int d] G sw E) : MX l yL_does wsL_does ({ frames := 8, cells := 1, slots := 6, locals := 150 } : Room) [.ref r0, .int 1, .int a, .int b, .int c, .int d] G sw E := by
  refine ofMX (cc := cL_does) (maxL := 6) (ret := (some .int)) (by decide) rfl (Nat.le_of_ble_eq_true rfl) (fun p e s m below meth c9 A ls F htb hH hl => ?_)
  have F : Fx G p s m _ meth c9 cL_does 6 wsL_does RL A := F
  have hx := F.1.1
  have hb := F.1.2.1
  obtain ⟨q1, q2, q3, q4⟩ := hc9
  have hl : lv_has ls 6 [(0, .ref r0), (1, .int 1), (2, .int a), (3, .int b), (4, .int c), (5, .int d)] := hl
  refine lv_iload_n hx hb dL_does_0 rfl (lv_at hl 1 rfl) ?_
  refine lv_tableIn (off := 91) (tgt := 92) hx hb dL_does_1 (by decide) (by decide) (by decide) (by decide) ?_
  refine lv_aload_n hx hb dL_does_92 rfl (lv_at hl 0 rfl) ?_
  refine lv_iload_n hx hb dL_does_93 rfl (lv_at hl 2 rfl) ?_
  refine lv_iload_n hx hb dL_does_94 rfl (lv_at hl 3 rfl) ?_
  refine lv_iload hx hb dL_does_95 (lv_at hl 4 rfl) ?_
  refine lv_iload hx hb dL_does_97 (lv_at hl 5 rfl) ?_
  exact callVX0 (rest := []) F hM gL_does_X2_notice rfl hdX2_notice ⟨by show rmc.frames + 1 ≤ 8; omega, by show 8 + (6 + 11) + rmc.locals ≤ 150; omega⟩ hH hrec rfl hl.1 (Nat.le_of_ble_eq_true rfl) dL_does_99 ⟨by show 0 + rmc.cells ≤ 1; omega, by show 0 + rmc.slots ≤ 6; omega⟩ rfl htb (by show 0 + rmc.cells ≤ 1; omega) (by show 0 + rmc.slots ≤ 6; omega)

set_option maxHeartbeats 4000000 in
set_option maxRecDepth 100000 in
theorem does_addCourse_ok (l : Launch) (G : Gx) (sw : va_W) (r0 : Nat) (a b c d : Int32) (rmc : Room) (hc9 : rmc.frames ≤ 7 ∧ rmc.cells ≤ 1 ∧ rmc.slots ≤ 6 ∧ rmc.locals ≤ 112) (hrec : ∃ (i ci : Nat) (fs : List Value) (z : vw_C), sw[i]? = some (r0, .inr (ci, fs)) ∧ vwCl[ci]? = some z ∧ z.1 = RX2) (sw2 : (Nat → Nat) → va_W) (ans : Int32) (hM : MI l yX2_addCourse wsX2_addCourse rmc [.ref r0, .int a, .int b, .int c, .int d] G sw sw2 ans) : MI l yL_does wsL_does ({ frames := 8, cells := 1, slots := 6, locals := 150 } : Room) [.ref r0, .int 2, .int a, .int b, .int c, .int d] G sw (fun u => sw2 u) ans := by
  refine ofMI (cc := cL_does) (maxL := 6) (ret := (some .int)) (by decide) rfl (Nat.le_of_ble_eq_true rfl) (fun p e s m below meth c9 A ls F hr hnm hH hl => ?_)
  have F : Fx G p s m _ meth c9 cL_does 6 wsL_does RL A := F
  have hx := F.1.1
  have hb := F.1.2.1
  obtain ⟨q1, q2, q3, q4⟩ := hc9
  have hl : lv_has ls 6 [(0, .ref r0), (1, .int 2), (2, .int a), (3, .int b), (4, .int c), (5, .int d)] := hl
  refine lv_iload_n hx hb dL_does_0 rfl (lv_at hl 1 rfl) ?_
  refine lv_tableIn (off := 102) (tgt := 103) hx hb dL_does_1 (by decide) (by decide) (by decide) (by decide) ?_
  refine lv_aload_n hx hb dL_does_103 rfl (lv_at hl 0 rfl) ?_
  refine lv_iload_n hx hb dL_does_104 rfl (lv_at hl 2 rfl) ?_
  refine lv_iload_n hx hb dL_does_105 rfl (lv_at hl 3 rfl) ?_
  refine lv_iload hx hb dL_does_106 (lv_at hl 4 rfl) ?_
  refine lv_iload hx hb dL_does_108 (lv_at hl 5 rfl) ?_
  refine callVI0 (rest := []) F hM gL_does_X2_addCourse rfl hdX2_addCourse ⟨by show rmc.frames + 1 ≤ 8; omega, by show 8 + (6 + 11) + rmc.locals ≤ 150; omega⟩ hH hrec rfl hl.1 (Nat.le_of_ble_eq_true rfl) dL_does_110 ⟨by show 0 + rmc.cells ≤ 1; omega, by show 0 + rmc.slots ≤ 6; omega⟩ rfl (fun u H locs hH => ?_)
  exact retI F hr rfl u hH rfl (by show 0 + rmc.cells ≤ 1; omega) (by show 0 + rmc.slots ≤ 6; omega) dL_does_113

set_option maxHeartbeats 4000000 in
set_option maxRecDepth 100000 in
theorem does_addCourse_x (l : Launch) (G : Gx) (sw : va_W) (r0 : Nat) (a b c d : Int32) (rmc : Room) (hc9 : rmc.frames ≤ 7 ∧ rmc.cells ≤ 1 ∧ rmc.slots ≤ 6 ∧ rmc.locals ≤ 112) (hrec : ∃ (i ci : Nat) (fs : List Value) (z : vw_C), sw[i]? = some (r0, .inr (ci, fs)) ∧ vwCl[ci]? = some z ∧ z.1 = RX2) (E : String) (hM : MX l yX2_addCourse wsX2_addCourse rmc [.ref r0, .int a, .int b, .int c, .int d] G sw E) : MX l yL_does wsL_does ({ frames := 8, cells := 1, slots := 6, locals := 150 } : Room) [.ref r0, .int 2, .int a, .int b, .int c, .int d] G sw E := by
  refine ofMX (cc := cL_does) (maxL := 6) (ret := (some .int)) (by decide) rfl (Nat.le_of_ble_eq_true rfl) (fun p e s m below meth c9 A ls F htb hH hl => ?_)
  have F : Fx G p s m _ meth c9 cL_does 6 wsL_does RL A := F
  have hx := F.1.1
  have hb := F.1.2.1
  obtain ⟨q1, q2, q3, q4⟩ := hc9
  have hl : lv_has ls 6 [(0, .ref r0), (1, .int 2), (2, .int a), (3, .int b), (4, .int c), (5, .int d)] := hl
  refine lv_iload_n hx hb dL_does_0 rfl (lv_at hl 1 rfl) ?_
  refine lv_tableIn (off := 102) (tgt := 103) hx hb dL_does_1 (by decide) (by decide) (by decide) (by decide) ?_
  refine lv_aload_n hx hb dL_does_103 rfl (lv_at hl 0 rfl) ?_
  refine lv_iload_n hx hb dL_does_104 rfl (lv_at hl 2 rfl) ?_
  refine lv_iload_n hx hb dL_does_105 rfl (lv_at hl 3 rfl) ?_
  refine lv_iload hx hb dL_does_106 (lv_at hl 4 rfl) ?_
  refine lv_iload hx hb dL_does_108 (lv_at hl 5 rfl) ?_
  exact callVX0 (rest := []) F hM gL_does_X2_addCourse rfl hdX2_addCourse ⟨by show rmc.frames + 1 ≤ 8; omega, by show 8 + (6 + 11) + rmc.locals ≤ 150; omega⟩ hH hrec rfl hl.1 (Nat.le_of_ble_eq_true rfl) dL_does_110 ⟨by show 0 + rmc.cells ≤ 1; omega, by show 0 + rmc.slots ≤ 6; omega⟩ rfl htb (by show 0 + rmc.cells ≤ 1; omega) (by show 0 + rmc.slots ≤ 6; omega)

set_option maxHeartbeats 4000000 in
set_option maxRecDepth 100000 in
theorem does_enrol_ok (l : Launch) (G : Gx) (sw : va_W) (r0 : Nat) (a b c d : Int32) (rmc : Room) (hc9 : rmc.frames ≤ 7 ∧ rmc.cells ≤ 1 ∧ rmc.slots ≤ 6 ∧ rmc.locals ≤ 112) (hrec : ∃ (i ci : Nat) (fs : List Value) (z : vw_C), sw[i]? = some (r0, .inr (ci, fs)) ∧ vwCl[ci]? = some z ∧ z.1 = RX2) (sw2 : (Nat → Nat) → va_W) (ans : Int32) (hM : MI l yX2_enrol wsX2_enrol rmc [.ref r0, .int a, .int b] G sw sw2 ans) : MI l yL_does wsL_does ({ frames := 8, cells := 1, slots := 6, locals := 150 } : Room) [.ref r0, .int 3, .int a, .int b, .int c, .int d] G sw (fun u => sw2 u) ans := by
  refine ofMI (cc := cL_does) (maxL := 6) (ret := (some .int)) (by decide) rfl (Nat.le_of_ble_eq_true rfl) (fun p e s m below meth c9 A ls F hr hnm hH hl => ?_)
  have F : Fx G p s m _ meth c9 cL_does 6 wsL_does RL A := F
  have hx := F.1.1
  have hb := F.1.2.1
  obtain ⟨q1, q2, q3, q4⟩ := hc9
  have hl : lv_has ls 6 [(0, .ref r0), (1, .int 3), (2, .int a), (3, .int b), (4, .int c), (5, .int d)] := hl
  refine lv_iload_n hx hb dL_does_0 rfl (lv_at hl 1 rfl) ?_
  refine lv_tableIn (off := 113) (tgt := 114) hx hb dL_does_1 (by decide) (by decide) (by decide) (by decide) ?_
  refine lv_aload_n hx hb dL_does_114 rfl (lv_at hl 0 rfl) ?_
  refine lv_iload_n hx hb dL_does_115 rfl (lv_at hl 2 rfl) ?_
  refine lv_iload_n hx hb dL_does_116 rfl (lv_at hl 3 rfl) ?_
  refine callVI0 (rest := []) F hM gL_does_X2_enrol rfl hdX2_enrol ⟨by show rmc.frames + 1 ≤ 8; omega, by show 8 + (5 + 11) + rmc.locals ≤ 150; omega⟩ hH hrec rfl hl.1 (Nat.le_of_ble_eq_true rfl) dL_does_117 ⟨by show 0 + rmc.cells ≤ 1; omega, by show 0 + rmc.slots ≤ 6; omega⟩ rfl (fun u H locs hH => ?_)
  exact retI F hr rfl u hH rfl (by show 0 + rmc.cells ≤ 1; omega) (by show 0 + rmc.slots ≤ 6; omega) dL_does_120

set_option maxHeartbeats 4000000 in
set_option maxRecDepth 100000 in
theorem does_enrol_x (l : Launch) (G : Gx) (sw : va_W) (r0 : Nat) (a b c d : Int32) (rmc : Room) (hc9 : rmc.frames ≤ 7 ∧ rmc.cells ≤ 1 ∧ rmc.slots ≤ 6 ∧ rmc.locals ≤ 112) (hrec : ∃ (i ci : Nat) (fs : List Value) (z : vw_C), sw[i]? = some (r0, .inr (ci, fs)) ∧ vwCl[ci]? = some z ∧ z.1 = RX2) (E : String) (hM : MX l yX2_enrol wsX2_enrol rmc [.ref r0, .int a, .int b] G sw E) : MX l yL_does wsL_does ({ frames := 8, cells := 1, slots := 6, locals := 150 } : Room) [.ref r0, .int 3, .int a, .int b, .int c, .int d] G sw E := by
  refine ofMX (cc := cL_does) (maxL := 6) (ret := (some .int)) (by decide) rfl (Nat.le_of_ble_eq_true rfl) (fun p e s m below meth c9 A ls F htb hH hl => ?_)
  have F : Fx G p s m _ meth c9 cL_does 6 wsL_does RL A := F
  have hx := F.1.1
  have hb := F.1.2.1
  obtain ⟨q1, q2, q3, q4⟩ := hc9
  have hl : lv_has ls 6 [(0, .ref r0), (1, .int 3), (2, .int a), (3, .int b), (4, .int c), (5, .int d)] := hl
  refine lv_iload_n hx hb dL_does_0 rfl (lv_at hl 1 rfl) ?_
  refine lv_tableIn (off := 113) (tgt := 114) hx hb dL_does_1 (by decide) (by decide) (by decide) (by decide) ?_
  refine lv_aload_n hx hb dL_does_114 rfl (lv_at hl 0 rfl) ?_
  refine lv_iload_n hx hb dL_does_115 rfl (lv_at hl 2 rfl) ?_
  refine lv_iload_n hx hb dL_does_116 rfl (lv_at hl 3 rfl) ?_
  exact callVX0 (rest := []) F hM gL_does_X2_enrol rfl hdX2_enrol ⟨by show rmc.frames + 1 ≤ 8; omega, by show 8 + (5 + 11) + rmc.locals ≤ 150; omega⟩ hH hrec rfl hl.1 (Nat.le_of_ble_eq_true rfl) dL_does_117 ⟨by show 0 + rmc.cells ≤ 1; omega, by show 0 + rmc.slots ≤ 6; omega⟩ rfl htb (by show 0 + rmc.cells ≤ 1; omega) (by show 0 + rmc.slots ≤ 6; omega)

set_option maxHeartbeats 4000000 in
set_option maxRecDepth 100000 in
theorem does_setFloor_x (l : Launch) (G : Gx) (sw : va_W) (r0 : Nat) (a b c d : Int32) (rmc : Room) (hc9 : rmc.frames ≤ 7 ∧ rmc.cells ≤ 1 ∧ rmc.slots ≤ 6 ∧ rmc.locals ≤ 112) (hrec : ∃ (i ci : Nat) (fs : List Value) (z : vw_C), sw[i]? = some (r0, .inr (ci, fs)) ∧ vwCl[ci]? = some z ∧ z.1 = RX2) (E : String) (hM : MX l yX2_setFloor wsX2_setFloor rmc [.ref r0, .int a] G sw E) : MX l yL_does wsL_does ({ frames := 8, cells := 1, slots := 6, locals := 150 } : Room) [.ref r0, .int 4, .int a, .int b, .int c, .int d] G sw E := by
  refine ofMX (cc := cL_does) (maxL := 6) (ret := (some .int)) (by decide) rfl (Nat.le_of_ble_eq_true rfl) (fun p e s m below meth c9 A ls F htb hH hl => ?_)
  have F : Fx G p s m _ meth c9 cL_does 6 wsL_does RL A := F
  have hx := F.1.1
  have hb := F.1.2.1
  obtain ⟨q1, q2, q3, q4⟩ := hc9
  have hl : lv_has ls 6 [(0, .ref r0), (1, .int 4), (2, .int a), (3, .int b), (4, .int c), (5, .int d)] := hl
  refine lv_iload_n hx hb dL_does_0 rfl (lv_at hl 1 rfl) ?_
  refine lv_tableIn (off := 120) (tgt := 121) hx hb dL_does_1 (by decide) (by decide) (by decide) (by decide) ?_
  refine lv_aload_n hx hb dL_does_121 rfl (lv_at hl 0 rfl) ?_
  refine lv_iload_n hx hb dL_does_122 rfl (lv_at hl 2 rfl) ?_
  exact callVX0 (rest := []) F hM gL_does_X2_setFloor rfl hdX2_setFloor ⟨by show rmc.frames + 1 ≤ 8; omega, by show 8 + (3 + 11) + rmc.locals ≤ 150; omega⟩ hH hrec rfl hl.1 (Nat.le_of_ble_eq_true rfl) dL_does_123 ⟨by show 0 + rmc.cells ≤ 1; omega, by show 0 + rmc.slots ≤ 6; omega⟩ rfl htb (by show 0 + rmc.cells ≤ 1; omega) (by show 0 + rmc.slots ≤ 6; omega)

set_option maxHeartbeats 4000000 in
set_option maxRecDepth 100000 in
theorem does_cut_x (l : Launch) (G : Gx) (sw : va_W) (r0 : Nat) (a b c d : Int32) (rmc : Room) (hc9 : rmc.frames ≤ 7 ∧ rmc.cells ≤ 1 ∧ rmc.slots ≤ 6 ∧ rmc.locals ≤ 112) (hrec : ∃ (i ci : Nat) (fs : List Value) (z : vw_C), sw[i]? = some (r0, .inr (ci, fs)) ∧ vwCl[ci]? = some z ∧ z.1 = RX2) (E : String) (hM : MX l yX2_cut wsX2_cut rmc [.ref r0, .int a, .int b] G sw E) : MX l yL_does wsL_does ({ frames := 8, cells := 1, slots := 6, locals := 150 } : Room) [.ref r0, .int 5, .int a, .int b, .int c, .int d] G sw E := by
  refine ofMX (cc := cL_does) (maxL := 6) (ret := (some .int)) (by decide) rfl (Nat.le_of_ble_eq_true rfl) (fun p e s m below meth c9 A ls F htb hH hl => ?_)
  have F : Fx G p s m _ meth c9 cL_does 6 wsL_does RL A := F
  have hx := F.1.1
  have hb := F.1.2.1
  obtain ⟨q1, q2, q3, q4⟩ := hc9
  have hl : lv_has ls 6 [(0, .ref r0), (1, .int 5), (2, .int a), (3, .int b), (4, .int c), (5, .int d)] := hl
  refine lv_iload_n hx hb dL_does_0 rfl (lv_at hl 1 rfl) ?_
  refine lv_tableIn (off := 126) (tgt := 127) hx hb dL_does_1 (by decide) (by decide) (by decide) (by decide) ?_
  refine lv_aload_n hx hb dL_does_127 rfl (lv_at hl 0 rfl) ?_
  refine lv_iload_n hx hb dL_does_128 rfl (lv_at hl 2 rfl) ?_
  refine lv_iload_n hx hb dL_does_129 rfl (lv_at hl 3 rfl) ?_
  exact callVX0 (rest := []) F hM gL_does_X2_cut rfl hdX2_cut ⟨by show rmc.frames + 1 ≤ 8; omega, by show 8 + (4 + 11) + rmc.locals ≤ 150; omega⟩ hH hrec rfl hl.1 (Nat.le_of_ble_eq_true rfl) dL_does_130 ⟨by show 0 + rmc.cells ≤ 1; omega, by show 0 + rmc.slots ≤ 6; omega⟩ rfl htb (by show 0 + rmc.cells ≤ 1; omega) (by show 0 + rmc.slots ≤ 6; omega)

set_option maxHeartbeats 4000000 in
set_option maxRecDepth 100000 in
theorem does_isFilled_x (l : Launch) (G : Gx) (sw : va_W) (r0 : Nat) (a b c d : Int32) (rmc : Room) (hc9 : rmc.frames ≤ 7 ∧ rmc.cells ≤ 1 ∧ rmc.slots ≤ 6 ∧ rmc.locals ≤ 112) (hrec : ∃ (i ci : Nat) (fs : List Value) (z : vw_C), sw[i]? = some (r0, .inr (ci, fs)) ∧ vwCl[ci]? = some z ∧ z.1 = RX2) (E : String) (hM : MX l yX2_isFilled wsX2_isFilled rmc [.ref r0, .int a, .int b] G sw E) : MX l yL_does wsL_does ({ frames := 8, cells := 1, slots := 6, locals := 150 } : Room) [.ref r0, .int 6, .int a, .int b, .int c, .int d] G sw E := by
  refine ofMX (cc := cL_does) (maxL := 6) (ret := (some .int)) (by decide) rfl (Nat.le_of_ble_eq_true rfl) (fun p e s m below meth c9 A ls F htb hH hl => ?_)
  have F : Fx G p s m _ meth c9 cL_does 6 wsL_does RL A := F
  have hx := F.1.1
  have hb := F.1.2.1
  obtain ⟨q1, q2, q3, q4⟩ := hc9
  have hl : lv_has ls 6 [(0, .ref r0), (1, .int 6), (2, .int a), (3, .int b), (4, .int c), (5, .int d)] := hl
  refine lv_iload_n hx hb dL_does_0 rfl (lv_at hl 1 rfl) ?_
  refine lv_tableIn (off := 133) (tgt := 134) hx hb dL_does_1 (by decide) (by decide) (by decide) (by decide) ?_
  refine lv_aload_n hx hb dL_does_134 rfl (lv_at hl 0 rfl) ?_
  refine lv_iload_n hx hb dL_does_135 rfl (lv_at hl 2 rfl) ?_
  refine lv_iload_n hx hb dL_does_136 rfl (lv_at hl 3 rfl) ?_
  exact callVX0 (rest := []) F hM gL_does_X2_isFilled rfl hdX2_isFilled ⟨by show rmc.frames + 1 ≤ 8; omega, by show 8 + (4 + 11) + rmc.locals ≤ 150; omega⟩ hH hrec rfl hl.1 (Nat.le_of_ble_eq_true rfl) dL_does_137 ⟨by show 0 + rmc.cells ≤ 1; omega, by show 0 + rmc.slots ≤ 6; omega⟩ rfl htb (by show 0 + rmc.cells ≤ 1; omega) (by show 0 + rmc.slots ≤ 6; omega)

set_option maxHeartbeats 4000000 in
set_option maxRecDepth 100000 in
theorem does_pass_x (l : Launch) (G : Gx) (sw : va_W) (r0 : Nat) (a b c d : Int32) (rmc : Room) (hc9 : rmc.frames ≤ 7 ∧ rmc.cells ≤ 1 ∧ rmc.slots ≤ 6 ∧ rmc.locals ≤ 112) (hrec : ∃ (i ci : Nat) (fs : List Value) (z : vw_C), sw[i]? = some (r0, .inr (ci, fs)) ∧ vwCl[ci]? = some z ∧ z.1 = RX2) (E : String) (hM : MX l yX2_pass wsX2_pass rmc [.ref r0, .int a] G sw E) : MX l yL_does wsL_does ({ frames := 8, cells := 1, slots := 6, locals := 150 } : Room) [.ref r0, .int 7, .int a, .int b, .int c, .int d] G sw E := by
  refine ofMX (cc := cL_does) (maxL := 6) (ret := (some .int)) (by decide) rfl (Nat.le_of_ble_eq_true rfl) (fun p e s m below meth c9 A ls F htb hH hl => ?_)
  have F : Fx G p s m _ meth c9 cL_does 6 wsL_does RL A := F
  have hx := F.1.1
  have hb := F.1.2.1
  obtain ⟨q1, q2, q3, q4⟩ := hc9
  have hl : lv_has ls 6 [(0, .ref r0), (1, .int 7), (2, .int a), (3, .int b), (4, .int c), (5, .int d)] := hl
  refine lv_iload_n hx hb dL_does_0 rfl (lv_at hl 1 rfl) ?_
  refine lv_tableIn (off := 148) (tgt := 149) hx hb dL_does_1 (by decide) (by decide) (by decide) (by decide) ?_
  refine lv_aload_n hx hb dL_does_149 rfl (lv_at hl 0 rfl) ?_
  refine lv_iload_n hx hb dL_does_150 rfl (lv_at hl 2 rfl) ?_
  exact callVX0 (rest := []) F hM gL_does_X2_pass rfl hdX2_pass ⟨by show rmc.frames + 1 ≤ 8; omega, by show 8 + (4 + 11) + rmc.locals ≤ 150; omega⟩ hH hrec rfl hl.1 (Nat.le_of_ble_eq_true rfl) dL_does_151 ⟨by show 0 + rmc.cells ≤ 1; omega, by show 0 + rmc.slots ≤ 6; omega⟩ rfl htb (by show 0 + rmc.cells ≤ 1; omega) (by show 0 + rmc.slots ≤ 6; omega)

set_option maxHeartbeats 4000000 in
set_option maxRecDepth 100000 in
theorem does_paid_x (l : Launch) (G : Gx) (sw : va_W) (r0 : Nat) (a b c d : Int32) (rmc : Room) (hc9 : rmc.frames ≤ 7 ∧ rmc.cells ≤ 1 ∧ rmc.slots ≤ 6 ∧ rmc.locals ≤ 112) (hrec : ∃ (i ci : Nat) (fs : List Value) (z : vw_C), sw[i]? = some (r0, .inr (ci, fs)) ∧ vwCl[ci]? = some z ∧ z.1 = RX2) (E : String) (hM : MX l yX2_paid wsX2_paid rmc [.ref r0, .int a, .int b] G sw E) : MX l yL_does wsL_does ({ frames := 8, cells := 1, slots := 6, locals := 150 } : Room) [.ref r0, .int 8, .int a, .int b, .int c, .int d] G sw E := by
  refine ofMX (cc := cL_does) (maxL := 6) (ret := (some .int)) (by decide) rfl (Nat.le_of_ble_eq_true rfl) (fun p e s m below meth c9 A ls F htb hH hl => ?_)
  have F : Fx G p s m _ meth c9 cL_does 6 wsL_does RL A := F
  have hx := F.1.1
  have hb := F.1.2.1
  obtain ⟨q1, q2, q3, q4⟩ := hc9
  have hl : lv_has ls 6 [(0, .ref r0), (1, .int 8), (2, .int a), (3, .int b), (4, .int c), (5, .int d)] := hl
  refine lv_iload_n hx hb dL_does_0 rfl (lv_at hl 1 rfl) ?_
  refine lv_tableIn (off := 154) (tgt := 155) hx hb dL_does_1 (by decide) (by decide) (by decide) (by decide) ?_
  refine lv_aload_n hx hb dL_does_155 rfl (lv_at hl 0 rfl) ?_
  refine lv_iload_n hx hb dL_does_156 rfl (lv_at hl 2 rfl) ?_
  refine lv_iload_n hx hb dL_does_157 rfl (lv_at hl 3 rfl) ?_
  exact callVX0 (rest := []) F hM gL_does_X2_paid rfl hdX2_paid ⟨by show rmc.frames + 1 ≤ 8; omega, by show 8 + (4 + 11) + rmc.locals ≤ 150; omega⟩ hH hrec rfl hl.1 (Nat.le_of_ble_eq_true rfl) dL_does_158 ⟨by show 0 + rmc.cells ≤ 1; omega, by show 0 + rmc.slots ≤ 6; omega⟩ rfl htb (by show 0 + rmc.cells ≤ 1; omega) (by show 0 + rmc.slots ≤ 6; omega)

set_option maxHeartbeats 4000000 in
set_option maxRecDepth 100000 in
theorem does_madeUp_x (l : Launch) (G : Gx) (sw : va_W) (r0 : Nat) (a b c d : Int32) (rmc : Room) (hc9 : rmc.frames ≤ 7 ∧ rmc.cells ≤ 1 ∧ rmc.slots ≤ 6 ∧ rmc.locals ≤ 112) (hrec : ∃ (i ci : Nat) (fs : List Value) (z : vw_C), sw[i]? = some (r0, .inr (ci, fs)) ∧ vwCl[ci]? = some z ∧ z.1 = RX2) (E : String) (hM : MX l yX2_madeUp wsX2_madeUp rmc [.ref r0, .int a, .int b] G sw E) : MX l yL_does wsL_does ({ frames := 8, cells := 1, slots := 6, locals := 150 } : Room) [.ref r0, .int 9, .int a, .int b, .int c, .int d] G sw E := by
  refine ofMX (cc := cL_does) (maxL := 6) (ret := (some .int)) (by decide) rfl (Nat.le_of_ble_eq_true rfl) (fun p e s m below meth c9 A ls F htb hH hl => ?_)
  have F : Fx G p s m _ meth c9 cL_does 6 wsL_does RL A := F
  have hx := F.1.1
  have hb := F.1.2.1
  obtain ⟨q1, q2, q3, q4⟩ := hc9
  have hl : lv_has ls 6 [(0, .ref r0), (1, .int 9), (2, .int a), (3, .int b), (4, .int c), (5, .int d)] := hl
  refine lv_iload_n hx hb dL_does_0 rfl (lv_at hl 1 rfl) ?_
  refine lv_tableIn (off := 161) (tgt := 162) hx hb dL_does_1 (by decide) (by decide) (by decide) (by decide) ?_
  refine lv_aload_n hx hb dL_does_162 rfl (lv_at hl 0 rfl) ?_
  refine lv_iload_n hx hb dL_does_163 rfl (lv_at hl 2 rfl) ?_
  refine lv_iload_n hx hb dL_does_164 rfl (lv_at hl 3 rfl) ?_
  exact callVX0 (rest := []) F hM gL_does_X2_madeUp rfl hdX2_madeUp ⟨by show rmc.frames + 1 ≤ 8; omega, by show 8 + (4 + 11) + rmc.locals ≤ 150; omega⟩ hH hrec rfl hl.1 (Nat.le_of_ble_eq_true rfl) dL_does_165 ⟨by show 0 + rmc.cells ≤ 1; omega, by show 0 + rmc.slots ≤ 6; omega⟩ rfl htb (by show 0 + rmc.cells ≤ 1; omega) (by show 0 + rmc.slots ≤ 6; omega)

set_option maxHeartbeats 4000000 in
set_option maxRecDepth 100000 in
theorem does_cutWeeks_x (l : Launch) (G : Gx) (sw : va_W) (r0 : Nat) (a b c d : Int32) (rmc : Room) (hc9 : rmc.frames ≤ 7 ∧ rmc.cells ≤ 1 ∧ rmc.slots ≤ 6 ∧ rmc.locals ≤ 112) (hrec : ∃ (i ci : Nat) (fs : List Value) (z : vw_C), sw[i]? = some (r0, .inr (ci, fs)) ∧ vwCl[ci]? = some z ∧ z.1 = RX2) (E : String) (hM : MX l yX2_cutWeeks wsX2_cutWeeks rmc [.ref r0, .int a] G sw E) : MX l yL_does wsL_does ({ frames := 8, cells := 1, slots := 6, locals := 150 } : Room) [.ref r0, .int 10, .int a, .int b, .int c, .int d] G sw E := by
  refine ofMX (cc := cL_does) (maxL := 6) (ret := (some .int)) (by decide) rfl (Nat.le_of_ble_eq_true rfl) (fun p e s m below meth c9 A ls F htb hH hl => ?_)
  have F : Fx G p s m _ meth c9 cL_does 6 wsL_does RL A := F
  have hx := F.1.1
  have hb := F.1.2.1
  obtain ⟨q1, q2, q3, q4⟩ := hc9
  have hl : lv_has ls 6 [(0, .ref r0), (1, .int 10), (2, .int a), (3, .int b), (4, .int c), (5, .int d)] := hl
  refine lv_iload_n hx hb dL_does_0 rfl (lv_at hl 1 rfl) ?_
  refine lv_tableIn (off := 168) (tgt := 169) hx hb dL_does_1 (by decide) (by decide) (by decide) (by decide) ?_
  refine lv_aload_n hx hb dL_does_169 rfl (lv_at hl 0 rfl) ?_
  refine lv_iload_n hx hb dL_does_170 rfl (lv_at hl 2 rfl) ?_
  exact callVX0 (rest := []) F hM gL_does_X2_cutWeeks rfl hdX2_cutWeeks ⟨by show rmc.frames + 1 ≤ 8; omega, by show 8 + (2 + 11) + rmc.locals ≤ 150; omega⟩ hH hrec rfl hl.1 (Nat.le_of_ble_eq_true rfl) dL_does_171 ⟨by show 0 + rmc.cells ≤ 1; omega, by show 0 + rmc.slots ≤ 6; omega⟩ rfl htb (by show 0 + rmc.cells ≤ 1; omega) (by show 0 + rmc.slots ≤ 6; omega)

set_option maxHeartbeats 4000000 in
set_option maxRecDepth 100000 in
theorem does_door_ok (l : Launch) (G : Gx) (sw : va_W) (r0 : Nat) (a b c d : Int32) (rmc : Room) (hc9 : rmc.frames ≤ 7 ∧ rmc.cells ≤ 1 ∧ rmc.slots ≤ 6 ∧ rmc.locals ≤ 112) (hrec : ∃ (i ci : Nat) (fs : List Value) (z : vw_C), sw[i]? = some (r0, .inr (ci, fs)) ∧ vwCl[ci]? = some z ∧ z.1 = RX2) (sw2 : (Nat → Nat) → va_W) (hM : MV l yX2_door wsX2_door rmc [.ref r0, .int a, .int b, .int c] G sw sw2) : MI l yL_does wsL_does ({ frames := 8, cells := 1, slots := 6, locals := 150 } : Room) [.ref r0, .int 11, .int a, .int b, .int c, .int d] G sw (fun u => sw2 u) 0 := by
  refine ofMI (cc := cL_does) (maxL := 6) (ret := (some .int)) (by decide) rfl (Nat.le_of_ble_eq_true rfl) (fun p e s m below meth c9 A ls F hr hnm hH hl => ?_)
  have F : Fx G p s m _ meth c9 cL_does 6 wsL_does RL A := F
  have hx := F.1.1
  have hb := F.1.2.1
  obtain ⟨q1, q2, q3, q4⟩ := hc9
  have hl : lv_has ls 6 [(0, .ref r0), (1, .int 11), (2, .int a), (3, .int b), (4, .int c), (5, .int d)] := hl
  refine lv_iload_n hx hb dL_does_0 rfl (lv_at hl 1 rfl) ?_
  refine lv_tableIn (off := 174) (tgt := 175) hx hb dL_does_1 (by decide) (by decide) (by decide) (by decide) ?_
  refine lv_aload_n hx hb dL_does_175 rfl (lv_at hl 0 rfl) ?_
  refine lv_iload_n hx hb dL_does_176 rfl (lv_at hl 2 rfl) ?_
  refine lv_iload_n hx hb dL_does_177 rfl (lv_at hl 3 rfl) ?_
  refine lv_iload hx hb dL_does_178 (lv_at hl 4 rfl) ?_
  refine callVV0 (rest := []) F hM gL_does_X2_door rfl hdX2_door ⟨by show rmc.frames + 1 ≤ 8; omega, by show 8 + (5 + 11) + rmc.locals ≤ 150; omega⟩ hH hrec rfl hl.1 (Nat.le_of_ble_eq_true rfl) dL_does_180 ⟨by show 0 + rmc.cells ≤ 1; omega, by show 0 + rmc.slots ≤ 6; omega⟩ rfl (fun u H locs hH => ?_)
  refine lv_iconst (v := 0) hx hb dL_does_183 (by decide) ?_
  exact retI F hr rfl u hH rfl (by show 0 + rmc.cells ≤ 1; omega) (by show 0 + rmc.slots ≤ 6; omega) dL_does_184

set_option maxHeartbeats 4000000 in
set_option maxRecDepth 100000 in
theorem does_door_x (l : Launch) (G : Gx) (sw : va_W) (r0 : Nat) (a b c d : Int32) (rmc : Room) (hc9 : rmc.frames ≤ 7 ∧ rmc.cells ≤ 1 ∧ rmc.slots ≤ 6 ∧ rmc.locals ≤ 112) (hrec : ∃ (i ci : Nat) (fs : List Value) (z : vw_C), sw[i]? = some (r0, .inr (ci, fs)) ∧ vwCl[ci]? = some z ∧ z.1 = RX2) (E : String) (hM : MX l yX2_door wsX2_door rmc [.ref r0, .int a, .int b, .int c] G sw E) : MX l yL_does wsL_does ({ frames := 8, cells := 1, slots := 6, locals := 150 } : Room) [.ref r0, .int 11, .int a, .int b, .int c, .int d] G sw E := by
  refine ofMX (cc := cL_does) (maxL := 6) (ret := (some .int)) (by decide) rfl (Nat.le_of_ble_eq_true rfl) (fun p e s m below meth c9 A ls F htb hH hl => ?_)
  have F : Fx G p s m _ meth c9 cL_does 6 wsL_does RL A := F
  have hx := F.1.1
  have hb := F.1.2.1
  obtain ⟨q1, q2, q3, q4⟩ := hc9
  have hl : lv_has ls 6 [(0, .ref r0), (1, .int 11), (2, .int a), (3, .int b), (4, .int c), (5, .int d)] := hl
  refine lv_iload_n hx hb dL_does_0 rfl (lv_at hl 1 rfl) ?_
  refine lv_tableIn (off := 174) (tgt := 175) hx hb dL_does_1 (by decide) (by decide) (by decide) (by decide) ?_
  refine lv_aload_n hx hb dL_does_175 rfl (lv_at hl 0 rfl) ?_
  refine lv_iload_n hx hb dL_does_176 rfl (lv_at hl 2 rfl) ?_
  refine lv_iload_n hx hb dL_does_177 rfl (lv_at hl 3 rfl) ?_
  refine lv_iload hx hb dL_does_178 (lv_at hl 4 rfl) ?_
  exact callVX0 (rest := []) F hM gL_does_X2_door rfl hdX2_door ⟨by show rmc.frames + 1 ≤ 8; omega, by show 8 + (5 + 11) + rmc.locals ≤ 150; omega⟩ hH hrec rfl hl.1 (Nat.le_of_ble_eq_true rfl) dL_does_180 ⟨by show 0 + rmc.cells ≤ 1; omega, by show 0 + rmc.slots ≤ 6; omega⟩ rfl htb (by show 0 + rmc.cells ≤ 1; omega) (by show 0 + rmc.slots ≤ 6; omega)

set_option maxHeartbeats 4000000 in
set_option maxRecDepth 100000 in
theorem does_mail_ok (l : Launch) (G : Gx) (sw : va_W) (r0 : Nat) (a b c d : Int32) (rmc : Room) (hc9 : rmc.frames ≤ 7 ∧ rmc.cells ≤ 1 ∧ rmc.slots ≤ 6 ∧ rmc.locals ≤ 112) (hrec : ∃ (i ci : Nat) (fs : List Value) (z : vw_C), sw[i]? = some (r0, .inr (ci, fs)) ∧ vwCl[ci]? = some z ∧ z.1 = RX2) (sw2 : (Nat → Nat) → va_W) (hM : MV l yX2_mail wsX2_mail rmc [.ref r0, .int a, .int b] G sw sw2) : MI l yL_does wsL_does ({ frames := 8, cells := 1, slots := 6, locals := 150 } : Room) [.ref r0, .int 12, .int a, .int b, .int c, .int d] G sw (fun u => sw2 u) 0 := by
  refine ofMI (cc := cL_does) (maxL := 6) (ret := (some .int)) (by decide) rfl (Nat.le_of_ble_eq_true rfl) (fun p e s m below meth c9 A ls F hr hnm hH hl => ?_)
  have F : Fx G p s m _ meth c9 cL_does 6 wsL_does RL A := F
  have hx := F.1.1
  have hb := F.1.2.1
  obtain ⟨q1, q2, q3, q4⟩ := hc9
  have hl : lv_has ls 6 [(0, .ref r0), (1, .int 12), (2, .int a), (3, .int b), (4, .int c), (5, .int d)] := hl
  refine lv_iload_n hx hb dL_does_0 rfl (lv_at hl 1 rfl) ?_
  refine lv_tableIn (off := 184) (tgt := 185) hx hb dL_does_1 (by decide) (by decide) (by decide) (by decide) ?_
  refine lv_aload_n hx hb dL_does_185 rfl (lv_at hl 0 rfl) ?_
  refine lv_iload_n hx hb dL_does_186 rfl (lv_at hl 2 rfl) ?_
  refine lv_iload_n hx hb dL_does_187 rfl (lv_at hl 3 rfl) ?_
  refine callVV0 (rest := []) F hM gL_does_X2_mail rfl hdX2_mail ⟨by show rmc.frames + 1 ≤ 8; omega, by show 8 + (4 + 11) + rmc.locals ≤ 150; omega⟩ hH hrec rfl hl.1 (Nat.le_of_ble_eq_true rfl) dL_does_188 ⟨by show 0 + rmc.cells ≤ 1; omega, by show 0 + rmc.slots ≤ 6; omega⟩ rfl (fun u H locs hH => ?_)
  refine lv_iconst (v := 0) hx hb dL_does_191 (by decide) ?_
  exact retI F hr rfl u hH rfl (by show 0 + rmc.cells ≤ 1; omega) (by show 0 + rmc.slots ≤ 6; omega) dL_does_192

set_option maxHeartbeats 4000000 in
set_option maxRecDepth 100000 in
theorem does_mail_x (l : Launch) (G : Gx) (sw : va_W) (r0 : Nat) (a b c d : Int32) (rmc : Room) (hc9 : rmc.frames ≤ 7 ∧ rmc.cells ≤ 1 ∧ rmc.slots ≤ 6 ∧ rmc.locals ≤ 112) (hrec : ∃ (i ci : Nat) (fs : List Value) (z : vw_C), sw[i]? = some (r0, .inr (ci, fs)) ∧ vwCl[ci]? = some z ∧ z.1 = RX2) (E : String) (hM : MX l yX2_mail wsX2_mail rmc [.ref r0, .int a, .int b] G sw E) : MX l yL_does wsL_does ({ frames := 8, cells := 1, slots := 6, locals := 150 } : Room) [.ref r0, .int 12, .int a, .int b, .int c, .int d] G sw E := by
  refine ofMX (cc := cL_does) (maxL := 6) (ret := (some .int)) (by decide) rfl (Nat.le_of_ble_eq_true rfl) (fun p e s m below meth c9 A ls F htb hH hl => ?_)
  have F : Fx G p s m _ meth c9 cL_does 6 wsL_does RL A := F
  have hx := F.1.1
  have hb := F.1.2.1
  obtain ⟨q1, q2, q3, q4⟩ := hc9
  have hl : lv_has ls 6 [(0, .ref r0), (1, .int 12), (2, .int a), (3, .int b), (4, .int c), (5, .int d)] := hl
  refine lv_iload_n hx hb dL_does_0 rfl (lv_at hl 1 rfl) ?_
  refine lv_tableIn (off := 184) (tgt := 185) hx hb dL_does_1 (by decide) (by decide) (by decide) (by decide) ?_
  refine lv_aload_n hx hb dL_does_185 rfl (lv_at hl 0 rfl) ?_
  refine lv_iload_n hx hb dL_does_186 rfl (lv_at hl 2 rfl) ?_
  refine lv_iload_n hx hb dL_does_187 rfl (lv_at hl 3 rfl) ?_
  exact callVX0 (rest := []) F hM gL_does_X2_mail rfl hdX2_mail ⟨by show rmc.frames + 1 ≤ 8; omega, by show 8 + (4 + 11) + rmc.locals ≤ 150; omega⟩ hH hrec rfl hl.1 (Nat.le_of_ble_eq_true rfl) dL_does_188 ⟨by show 0 + rmc.cells ≤ 1; omega, by show 0 + rmc.slots ≤ 6; omega⟩ rfl htb (by show 0 + rmc.cells ≤ 1; omega) (by show 0 + rmc.slots ≤ 6; omega)

set_option maxHeartbeats 4000000 in
set_option maxRecDepth 100000 in
theorem does_check_ok (l : Launch) (G : Gx) (sw : va_W) (r0 : Nat) (a b c d : Int32) (rmc : Room) (hc9 : rmc.frames ≤ 7 ∧ rmc.cells ≤ 1 ∧ rmc.slots ≤ 6 ∧ rmc.locals ≤ 112) (hrec : ∃ (i ci : Nat) (fs : List Value) (z : vw_C), sw[i]? = some (r0, .inr (ci, fs)) ∧ vwCl[ci]? = some z ∧ z.1 = RX2) (sw2 : (Nat → Nat) → va_W) (ans : Int32) (hM : MI l yX2_check wsX2_check rmc [.ref r0, .int a] G sw sw2 ans) : MI l yL_does wsL_does ({ frames := 8, cells := 1, slots := 6, locals := 150 } : Room) [.ref r0, .int 13, .int a, .int b, .int c, .int d] G sw (fun u => sw2 u) ans := by
  refine ofMI (cc := cL_does) (maxL := 6) (ret := (some .int)) (by decide) rfl (Nat.le_of_ble_eq_true rfl) (fun p e s m below meth c9 A ls F hr hnm hH hl => ?_)
  have F : Fx G p s m _ meth c9 cL_does 6 wsL_does RL A := F
  have hx := F.1.1
  have hb := F.1.2.1
  obtain ⟨q1, q2, q3, q4⟩ := hc9
  have hl : lv_has ls 6 [(0, .ref r0), (1, .int 13), (2, .int a), (3, .int b), (4, .int c), (5, .int d)] := hl
  refine lv_iload_n hx hb dL_does_0 rfl (lv_at hl 1 rfl) ?_
  refine lv_tableIn (off := 192) (tgt := 193) hx hb dL_does_1 (by decide) (by decide) (by decide) (by decide) ?_
  refine lv_aload_n hx hb dL_does_193 rfl (lv_at hl 0 rfl) ?_
  refine lv_iload_n hx hb dL_does_194 rfl (lv_at hl 2 rfl) ?_
  refine callVI0 (rest := []) F hM gL_does_X2_check rfl hdX2_check ⟨by show rmc.frames + 1 ≤ 8; omega, by show 8 + (7 + 11) + rmc.locals ≤ 150; omega⟩ hH hrec rfl hl.1 (Nat.le_of_ble_eq_true rfl) dL_does_195 ⟨by show 0 + rmc.cells ≤ 1; omega, by show 0 + rmc.slots ≤ 6; omega⟩ rfl (fun u H locs hH => ?_)
  exact retI F hr rfl u hH rfl (by show 0 + rmc.cells ≤ 1; omega) (by show 0 + rmc.slots ≤ 6; omega) dL_does_198

set_option maxHeartbeats 4000000 in
set_option maxRecDepth 100000 in
theorem does_check_x (l : Launch) (G : Gx) (sw : va_W) (r0 : Nat) (a b c d : Int32) (rmc : Room) (hc9 : rmc.frames ≤ 7 ∧ rmc.cells ≤ 1 ∧ rmc.slots ≤ 6 ∧ rmc.locals ≤ 112) (hrec : ∃ (i ci : Nat) (fs : List Value) (z : vw_C), sw[i]? = some (r0, .inr (ci, fs)) ∧ vwCl[ci]? = some z ∧ z.1 = RX2) (E : String) (hM : MX l yX2_check wsX2_check rmc [.ref r0, .int a] G sw E) : MX l yL_does wsL_does ({ frames := 8, cells := 1, slots := 6, locals := 150 } : Room) [.ref r0, .int 13, .int a, .int b, .int c, .int d] G sw E := by
  refine ofMX (cc := cL_does) (maxL := 6) (ret := (some .int)) (by decide) rfl (Nat.le_of_ble_eq_true rfl) (fun p e s m below meth c9 A ls F htb hH hl => ?_)
  have F : Fx G p s m _ meth c9 cL_does 6 wsL_does RL A := F
  have hx := F.1.1
  have hb := F.1.2.1
  obtain ⟨q1, q2, q3, q4⟩ := hc9
  have hl : lv_has ls 6 [(0, .ref r0), (1, .int 13), (2, .int a), (3, .int b), (4, .int c), (5, .int d)] := hl
  refine lv_iload_n hx hb dL_does_0 rfl (lv_at hl 1 rfl) ?_
  refine lv_tableIn (off := 192) (tgt := 193) hx hb dL_does_1 (by decide) (by decide) (by decide) (by decide) ?_
  refine lv_aload_n hx hb dL_does_193 rfl (lv_at hl 0 rfl) ?_
  refine lv_iload_n hx hb dL_does_194 rfl (lv_at hl 2 rfl) ?_
  exact callVX0 (rest := []) F hM gL_does_X2_check rfl hdX2_check ⟨by show rmc.frames + 1 ≤ 8; omega, by show 8 + (7 + 11) + rmc.locals ≤ 150; omega⟩ hH hrec rfl hl.1 (Nat.le_of_ble_eq_true rfl) dL_does_195 ⟨by show 0 + rmc.cells ≤ 1; omega, by show 0 + rmc.slots ≤ 6; omega⟩ rfl htb (by show 0 + rmc.cells ≤ 1; omega) (by show 0 + rmc.slots ≤ 6; omega)

set_option maxHeartbeats 4000000 in
set_option maxRecDepth 100000 in
theorem does_owes_x (l : Launch) (G : Gx) (sw : va_W) (r0 : Nat) (a b c d : Int32) (rmc : Room) (hc9 : rmc.frames ≤ 7 ∧ rmc.cells ≤ 1 ∧ rmc.slots ≤ 6 ∧ rmc.locals ≤ 112) (hrec : ∃ (i ci : Nat) (fs : List Value) (z : vw_C), sw[i]? = some (r0, .inr (ci, fs)) ∧ vwCl[ci]? = some z ∧ z.1 = RX2) (E : String) (hM : MX l yX2_owes wsX2_owes rmc [.ref r0, .int a] G sw E) : MX l yL_does wsL_does ({ frames := 8, cells := 1, slots := 6, locals := 150 } : Room) [.ref r0, .int 14, .int a, .int b, .int c, .int d] G sw E := by
  refine ofMX (cc := cL_does) (maxL := 6) (ret := (some .int)) (by decide) rfl (Nat.le_of_ble_eq_true rfl) (fun p e s m below meth c9 A ls F htb hH hl => ?_)
  have F : Fx G p s m _ meth c9 cL_does 6 wsL_does RL A := F
  have hx := F.1.1
  have hb := F.1.2.1
  obtain ⟨q1, q2, q3, q4⟩ := hc9
  have hl : lv_has ls 6 [(0, .ref r0), (1, .int 14), (2, .int a), (3, .int b), (4, .int c), (5, .int d)] := hl
  refine lv_iload_n hx hb dL_does_0 rfl (lv_at hl 1 rfl) ?_
  refine lv_tableIn (off := 198) (tgt := 199) hx hb dL_does_1 (by decide) (by decide) (by decide) (by decide) ?_
  refine lv_aload_n hx hb dL_does_199 rfl (lv_at hl 0 rfl) ?_
  refine lv_iload_n hx hb dL_does_200 rfl (lv_at hl 2 rfl) ?_
  exact callVX0 (rest := []) F hM gL_does_X2_owes rfl hdX2_owes ⟨by show rmc.frames + 1 ≤ 8; omega, by show 8 + (2 + 11) + rmc.locals ≤ 150; omega⟩ hH hrec rfl hl.1 (Nat.le_of_ble_eq_true rfl) dL_does_201 ⟨by show 0 + rmc.cells ≤ 1; omega, by show 0 + rmc.slots ≤ 6; omega⟩ rfl htb (by show 0 + rmc.cells ≤ 1; omega) (by show 0 + rmc.slots ≤ 6; omega)

set_option maxHeartbeats 4000000 in
set_option maxRecDepth 100000 in
theorem does_net_x (l : Launch) (G : Gx) (sw : va_W) (r0 : Nat) (a b c d : Int32) (rmc : Room) (hc9 : rmc.frames ≤ 7 ∧ rmc.cells ≤ 1 ∧ rmc.slots ≤ 6 ∧ rmc.locals ≤ 112) (hrec : ∃ (i ci : Nat) (fs : List Value) (z : vw_C), sw[i]? = some (r0, .inr (ci, fs)) ∧ vwCl[ci]? = some z ∧ z.1 = RX2) (E : String) (hM : MX l yX2_net wsX2_net rmc [.ref r0, .int a] G sw E) : MX l yL_does wsL_does ({ frames := 8, cells := 1, slots := 6, locals := 150 } : Room) [.ref r0, .int 15, .int a, .int b, .int c, .int d] G sw E := by
  refine ofMX (cc := cL_does) (maxL := 6) (ret := (some .int)) (by decide) rfl (Nat.le_of_ble_eq_true rfl) (fun p e s m below meth c9 A ls F htb hH hl => ?_)
  have F : Fx G p s m _ meth c9 cL_does 6 wsL_does RL A := F
  have hx := F.1.1
  have hb := F.1.2.1
  obtain ⟨q1, q2, q3, q4⟩ := hc9
  have hl : lv_has ls 6 [(0, .ref r0), (1, .int 15), (2, .int a), (3, .int b), (4, .int c), (5, .int d)] := hl
  refine lv_iload_n hx hb dL_does_0 rfl (lv_at hl 1 rfl) ?_
  refine lv_tableOut (tgt := 205) hx hb dL_does_1 (Or.inr (by decide)) (by decide) ?_
  refine lv_aload_n hx hb dL_does_205 rfl (lv_at hl 0 rfl) ?_
  refine lv_iload_n hx hb dL_does_206 rfl (lv_at hl 2 rfl) ?_
  exact callVX0 (rest := []) F hM gL_does_X2_net rfl hdX2_net ⟨by show rmc.frames + 1 ≤ 8; omega, by show 8 + (3 + 11) + rmc.locals ≤ 150; omega⟩ hH hrec rfl hl.1 (Nat.le_of_ble_eq_true rfl) dL_does_207 ⟨by show 0 + rmc.cells ≤ 1; omega, by show 0 + rmc.slots ≤ 6; omega⟩ rfl htb (by show 0 + rmc.cells ≤ 1; omega) (by show 0 + rmc.slots ≤ 6; omega)

set_option maxHeartbeats 4000000 in
set_option maxRecDepth 100000 in
theorem call_ok (l : Launch) (G : Gx) (sw : va_W) (r0 : Nat) (j a b c d : Int32) (sw2 : (Nat → Nat) → va_W) (ans : Int32) (hM : MI l yL_does wsL_does ({ frames := 8, cells := 1, slots := 6, locals := 150 } : Room) [.ref r0, .int j, .int a, .int b, .int c, .int d] G sw sw2 ans) : MI l yL_call wsL_call ({ frames := 9, cells := 1, slots := 6, locals := 190 } : Room) [.ref r0, .int j, .int a, .int b, .int c, .int d] G sw (fun u => sw2 u) ans := by
  refine ofLI (cc := cL_call) (maxL := 7) (ret := (some .int)) (hh := [(0, 11, 12, 14), (0, 11, 17, 16), (0, 11, 22, 18)]) (by decide) rfl (Nat.le_of_ble_eq_true rfl) (fun p e s m below meth c9 A ls F hr htb hH hl => ?_)
  have F : Fx G p s m _ meth c9 cL_call 7 wsL_call RL A := F
  have hx := F.1.1
  have hb := F.1.2.1
  have hl : lv_has ls 7 [(0, .ref r0), (1, .int j), (2, .int a), (3, .int b), (4, .int c), (5, .int d)] := hl
  refine lv_aload_n hx hb dL_call_0 rfl (lv_at hl 0 rfl) ?_
  refine lv_iload_n hx hb dL_call_1 rfl (lv_at hl 1 rfl) ?_
  refine lv_iload_n hx hb dL_call_2 rfl (lv_at hl 2 rfl) ?_
  refine lv_iload_n hx hb dL_call_3 rfl (lv_at hl 3 rfl) ?_
  refine lv_iload hx hb dL_call_4 (lv_at hl 4 rfl) ?_
  refine lv_iload hx hb dL_call_6 (lv_at hl 5 rfl) ?_
  refine callSI (rest := []) F hM gL_call_L_does rfl hdL_does ⟨Nat.le_of_ble_eq_true rfl, Nat.le_of_ble_eq_true rfl⟩ [] [] hH (by simp only [List.nil_append, List.append_nil]) rfl hl.1 (Nat.le_of_ble_eq_true rfl) dL_call_8 ⟨Nat.le_of_ble_eq_true rfl, Nat.le_of_ble_eq_true rfl⟩ rfl (fun u H locs hH => ?_)
  have hH : HH G A s (sw2 u) H locs := by rw [List.nil_append, List.append_nil] at hH; exact hH
  exact retI F hr rfl u hH rfl (Nat.le_of_ble_eq_true rfl) (Nat.le_of_ble_eq_true rfl) dL_call_11

set_option maxHeartbeats 4000000 in
set_option maxRecDepth 100000 in
theorem call_x1 (l : Launch) (G : Gx) (sw : va_W) (r0 : Nat) (j a b c d : Int32) (hM : MX l yL_does wsL_does ({ frames := 8, cells := 1, slots := 6, locals := 150 } : Room) [.ref r0, .int j, .int a, .int b, .int c, .int d] G sw "java/lang/IndexOutOfBoundsException") : MI l yL_call wsL_call ({ frames := 9, cells := 1, slots := 6, locals := 190 } : Room) [.ref r0, .int j, .int a, .int b, .int c, .int d] G sw (fun u => sw) (-61) := by
  refine ofLI (cc := cL_call) (maxL := 7) (ret := (some .int)) (hh := [(0, 11, 12, 14), (0, 11, 17, 16), (0, 11, 22, 18)]) (by decide) rfl (Nat.le_of_ble_eq_true rfl) (fun p e s m below meth c9 A ls F hr htb hH hl => ?_)
  have F : Fx G p s m _ meth c9 cL_call 7 wsL_call RL A := F
  have hx := F.1.1
  have hb := F.1.2.1
  have hl : lv_has ls 7 [(0, .ref r0), (1, .int j), (2, .int a), (3, .int b), (4, .int c), (5, .int d)] := hl
  refine lv_aload_n hx hb dL_call_0 rfl (lv_at hl 0 rfl) ?_
  refine lv_iload_n hx hb dL_call_1 rfl (lv_at hl 1 rfl) ?_
  refine lv_iload_n hx hb dL_call_2 rfl (lv_at hl 2 rfl) ?_
  refine lv_iload_n hx hb dL_call_3 rfl (lv_at hl 3 rfl) ?_
  refine lv_iload hx hb dL_call_4 (lv_at hl 4 rfl) ?_
  refine lv_iload hx hb dL_call_6 (lv_at hl 5 rfl) ?_
  refine callSX (rest := []) F hM gL_call_L_does rfl hdL_does ⟨Nat.le_of_ble_eq_true rfl, Nat.le_of_ble_eq_true rfl⟩ [] [] hH (by simp only [List.nil_append, List.append_nil]) rfl hl.1 (Nat.le_of_ble_eq_true rfl) dL_call_8 ⟨Nat.le_of_ble_eq_true rfl, Nat.le_of_ble_eq_true rfl⟩ rfl (fun ce q9 H locs hH h1 h2 h3 => ?_)
  refine vx_catch (own := RL) (name := "java/lang/IndexOutOfBoundsException") (E := "java/lang/IndexOutOfBoundsException") F.1.2.2.2.1 [] ⟨0, 11, 12, 14⟩ [⟨0, 11, 17, 16⟩, ⟨0, 11, 22, 18⟩] (htb.trans rfl) (fun z hz => absurd hz List.not_mem_nil) rfl (by decide) (F.1.2.2.2.2 (.classLink RL 14 "java/lang/IndexOutOfBoundsException") (by decide +kernel)) (va_tabs rfl rfl (F.2.2.2.1.2.2.2.1 (.castable "java/lang/IndexOutOfBoundsException" "java/lang/IndexOutOfBoundsException") (by decide +kernel))) h1 h2 h3 ?_
  refine lv_astore (lv' := [(6, .ref q9), (0, .ref r0), (1, .int j), (2, .int a), (3, .int b), (4, .int c), (5, .int d)]) hx hb dL_call_12 hl (by decide) rfl (fun ls hl => ?_)
  refine lv_bipush (v := (-61)) hx hb dL_call_14 (by decide) ?_
  exact retI F hr rfl (fun _ => 0) hH rfl (Nat.le_of_ble_eq_true rfl) (Nat.le_of_ble_eq_true rfl) dL_call_16

set_option maxHeartbeats 4000000 in
set_option maxRecDepth 100000 in
theorem call_x2 (l : Launch) (G : Gx) (sw : va_W) (r0 : Nat) (j a b c d : Int32) (hM : MX l yL_does wsL_does ({ frames := 8, cells := 1, slots := 6, locals := 150 } : Room) [.ref r0, .int j, .int a, .int b, .int c, .int d] G sw "java/lang/IllegalArgumentException") : MI l yL_call wsL_call ({ frames := 9, cells := 1, slots := 6, locals := 190 } : Room) [.ref r0, .int j, .int a, .int b, .int c, .int d] G sw (fun u => sw) (-62) := by
  refine ofLI (cc := cL_call) (maxL := 7) (ret := (some .int)) (hh := [(0, 11, 12, 14), (0, 11, 17, 16), (0, 11, 22, 18)]) (by decide) rfl (Nat.le_of_ble_eq_true rfl) (fun p e s m below meth c9 A ls F hr htb hH hl => ?_)
  have F : Fx G p s m _ meth c9 cL_call 7 wsL_call RL A := F
  have hx := F.1.1
  have hb := F.1.2.1
  have hl : lv_has ls 7 [(0, .ref r0), (1, .int j), (2, .int a), (3, .int b), (4, .int c), (5, .int d)] := hl
  refine lv_aload_n hx hb dL_call_0 rfl (lv_at hl 0 rfl) ?_
  refine lv_iload_n hx hb dL_call_1 rfl (lv_at hl 1 rfl) ?_
  refine lv_iload_n hx hb dL_call_2 rfl (lv_at hl 2 rfl) ?_
  refine lv_iload_n hx hb dL_call_3 rfl (lv_at hl 3 rfl) ?_
  refine lv_iload hx hb dL_call_4 (lv_at hl 4 rfl) ?_
  refine lv_iload hx hb dL_call_6 (lv_at hl 5 rfl) ?_
  refine callSX (rest := []) F hM gL_call_L_does rfl hdL_does ⟨Nat.le_of_ble_eq_true rfl, Nat.le_of_ble_eq_true rfl⟩ [] [] hH (by simp only [List.nil_append, List.append_nil]) rfl hl.1 (Nat.le_of_ble_eq_true rfl) dL_call_8 ⟨Nat.le_of_ble_eq_true rfl, Nat.le_of_ble_eq_true rfl⟩ rfl (fun ce q9 H locs hH h1 h2 h3 => ?_)
  refine vx_catch (own := RL) (name := "java/lang/IllegalArgumentException") (E := "java/lang/IllegalArgumentException") F.1.2.2.2.1 [⟨0, 11, 12, 14⟩] ⟨0, 11, 17, 16⟩ [⟨0, 11, 22, 18⟩] (htb.trans rfl) ?_ rfl (by decide) (F.1.2.2.2.2 (.classLink RL 16 "java/lang/IllegalArgumentException") (by decide +kernel)) (va_tabs rfl rfl (F.2.2.2.1.2.2.2.1 (.castable "java/lang/IllegalArgumentException" "java/lang/IllegalArgumentException") (by decide +kernel))) h1 h2 h3 ?_
  · intro z hz
    have hz := List.mem_singleton.mp hz
    subst hz
    exact Or.inr ⟨by decide, "java/lang/IndexOutOfBoundsException", F.1.2.2.2.2 (.classLink RL 14 "java/lang/IndexOutOfBoundsException") (by decide +kernel), F.2.2.2.1.2.2.2.2 ("java/lang/IllegalArgumentException", "java/lang/IndexOutOfBoundsException") (by decide)⟩
  · refine lv_astore (lv' := [(6, .ref q9), (0, .ref r0), (1, .int j), (2, .int a), (3, .int b), (4, .int c), (5, .int d)]) hx hb dL_call_17 hl (by decide) rfl (fun ls hl => ?_)
    refine lv_bipush (v := (-62)) hx hb dL_call_19 (by decide) ?_
    exact retI F hr rfl (fun _ => 0) hH rfl (Nat.le_of_ble_eq_true rfl) (Nat.le_of_ble_eq_true rfl) dL_call_21

set_option maxHeartbeats 4000000 in
set_option maxRecDepth 100000 in
theorem call_x3 (l : Launch) (G : Gx) (sw : va_W) (r0 : Nat) (j a b c d : Int32) (hM : MX l yL_does wsL_does ({ frames := 8, cells := 1, slots := 6, locals := 150 } : Room) [.ref r0, .int j, .int a, .int b, .int c, .int d] G sw "java/lang/IllegalStateException") : MI l yL_call wsL_call ({ frames := 9, cells := 1, slots := 6, locals := 190 } : Room) [.ref r0, .int j, .int a, .int b, .int c, .int d] G sw (fun u => sw) (-63) := by
  refine ofLI (cc := cL_call) (maxL := 7) (ret := (some .int)) (hh := [(0, 11, 12, 14), (0, 11, 17, 16), (0, 11, 22, 18)]) (by decide) rfl (Nat.le_of_ble_eq_true rfl) (fun p e s m below meth c9 A ls F hr htb hH hl => ?_)
  have F : Fx G p s m _ meth c9 cL_call 7 wsL_call RL A := F
  have hx := F.1.1
  have hb := F.1.2.1
  have hl : lv_has ls 7 [(0, .ref r0), (1, .int j), (2, .int a), (3, .int b), (4, .int c), (5, .int d)] := hl
  refine lv_aload_n hx hb dL_call_0 rfl (lv_at hl 0 rfl) ?_
  refine lv_iload_n hx hb dL_call_1 rfl (lv_at hl 1 rfl) ?_
  refine lv_iload_n hx hb dL_call_2 rfl (lv_at hl 2 rfl) ?_
  refine lv_iload_n hx hb dL_call_3 rfl (lv_at hl 3 rfl) ?_
  refine lv_iload hx hb dL_call_4 (lv_at hl 4 rfl) ?_
  refine lv_iload hx hb dL_call_6 (lv_at hl 5 rfl) ?_
  refine callSX (rest := []) F hM gL_call_L_does rfl hdL_does ⟨Nat.le_of_ble_eq_true rfl, Nat.le_of_ble_eq_true rfl⟩ [] [] hH (by simp only [List.nil_append, List.append_nil]) rfl hl.1 (Nat.le_of_ble_eq_true rfl) dL_call_8 ⟨Nat.le_of_ble_eq_true rfl, Nat.le_of_ble_eq_true rfl⟩ rfl (fun ce q9 H locs hH h1 h2 h3 => ?_)
  refine vx_catch (own := RL) (name := "java/lang/IllegalStateException") (E := "java/lang/IllegalStateException") F.1.2.2.2.1 [⟨0, 11, 12, 14⟩, ⟨0, 11, 17, 16⟩] ⟨0, 11, 22, 18⟩ [] (htb.trans rfl) ?_ rfl (by decide) (F.1.2.2.2.2 (.classLink RL 18 "java/lang/IllegalStateException") (by decide +kernel)) (va_tabs rfl rfl (F.2.2.2.1.2.2.2.1 (.castable "java/lang/IllegalStateException" "java/lang/IllegalStateException") (by decide +kernel))) h1 h2 h3 ?_
  · intro z hz
    rcases List.mem_cons.mp hz with hz | hz
    · subst hz
      exact Or.inr ⟨by decide, "java/lang/IndexOutOfBoundsException", F.1.2.2.2.2 (.classLink RL 14 "java/lang/IndexOutOfBoundsException") (by decide +kernel), F.2.2.2.1.2.2.2.2 ("java/lang/IllegalStateException", "java/lang/IndexOutOfBoundsException") (by decide)⟩
    · have hz := List.mem_singleton.mp hz
      subst hz
      exact Or.inr ⟨by decide, "java/lang/IllegalArgumentException", F.1.2.2.2.2 (.classLink RL 16 "java/lang/IllegalArgumentException") (by decide +kernel), F.2.2.2.1.2.2.2.2 ("java/lang/IllegalStateException", "java/lang/IllegalArgumentException") (by decide)⟩
  · refine lv_astore (lv' := [(6, .ref q9), (0, .ref r0), (1, .int j), (2, .int a), (3, .int b), (4, .int c), (5, .int d)]) hx hb dL_call_22 hl (by decide) rfl (fun ls hl => ?_)
    refine lv_bipush (v := (-63)) hx hb dL_call_24 (by decide) ?_
    exact retI F hr rfl (fun _ => 0) hH rfl (Nat.le_of_ble_eq_true rfl) (Nat.le_of_ble_eq_true rfl) dL_call_26
