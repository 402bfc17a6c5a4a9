theorem goTo_w {G : Gx} {A : Nat → Prop} {s : State} {H : Heap} {locs : List Loc} {q : Nat → Nat} {n nc t i z : Nat} {fl fd : Int32} {k : Nat → Int32} {wd : Nat → Nat → Nat} {wf : Nat → Nat → Int32} {wa : Nat → Nat → Nat → Int32} {cd : Nat → Nat} {cf : Nat → Nat → Int32} {g : Nat → Int32} {v : Int32}
    (h : HH G A s (sW G q n nc t fl fd k wd wf (va_up (va_up wa i (va_up (wa i) 3 g)) i (va_up ((va_up wa i (va_up (wa i) 3 g)) i) 3 (upd ((va_up wa i (va_up (wa i) 3 g)) i 3) z v))) cd cf) H locs) : HH G A s (sW G q n nc t fl fd k wd wf (va_up wa i (va_up (wa i) 3 (upd g z v))) cd cf) H locs := by
  rw [va_up_self, va_up_self, bx_uu, bx_uu] at h
  exact h
theorem hdX1_goTo : yX1_goTo.cls = RX1 ∧ yX1_goTo.cls ≠ "java/lang/invoke/MethodHandle" ∧ yX1_goTo.cls ≠ "java/lang/invoke/VarHandle" ∧ (parseMethodDescriptor yX1_goTo.desc).map (fun d => d.parameters.length) = some 1 := by decide +kernel
theorem hdX1_hasNoCourseFrom : yX1_hasNoCourseFrom.cls = RX1 ∧ yX1_hasNoCourseFrom.cls ≠ "java/lang/invoke/MethodHandle" ∧ yX1_hasNoCourseFrom.cls ≠ "java/lang/invoke/VarHandle" ∧ (parseMethodDescriptor yX1_hasNoCourseFrom.desc).map (fun d => d.parameters.length) = some 2 := by decide +kernel
theorem hdX1_hasWorkedTooMuch : yX1_hasWorkedTooMuch.cls = RX1 ∧ yX1_hasWorkedTooMuch.cls ≠ "java/lang/invoke/MethodHandle" ∧ yX1_hasWorkedTooMuch.cls ≠ "java/lang/invoke/VarHandle" ∧ (parseMethodDescriptor yX1_hasWorkedTooMuch.desc).map (fun d => d.parameters.length) = some 1 := by decide +kernel
theorem hdX1_payFor : yX1_payFor.cls = RX1 ∧ yX1_payFor.cls ≠ "java/lang/invoke/MethodHandle" ∧ yX1_payFor.cls ≠ "java/lang/invoke/VarHandle" ∧ (parseMethodDescriptor yX1_payFor.desc).map (fun d => d.parameters.length) = some 2 := by decide +kernel
theorem hdX1_takeNotice : yX1_takeNotice.cls = RX1 ∧ yX1_takeNotice.cls ≠ "java/lang/invoke/MethodHandle" ∧ yX1_takeNotice.cls ≠ "java/lang/invoke/VarHandle" ∧ (parseMethodDescriptor yX1_takeNotice.desc).map (fun d => d.parameters.length) = some 3 := by decide +kernel
theorem hdX2_chargeBack : yX2_chargeBack.cls = RX2 ∧ yX2_chargeBack.cls ≠ "java/lang/invoke/MethodHandle" ∧ yX2_chargeBack.cls ≠ "java/lang/invoke/VarHandle" ∧ (parseMethodDescriptor yX2_chargeBack.desc).map (fun d => d.parameters.length) = some 2 := by decide +kernel
theorem hdX2_courseAt : yX2_courseAt.cls = RX2 ∧ yX2_courseAt.cls ≠ "java/lang/invoke/MethodHandle" ∧ yX2_courseAt.cls ≠ "java/lang/invoke/VarHandle" ∧ (parseMethodDescriptor yX2_courseAt.desc).map (fun d => d.parameters.length) = some 1 := by decide +kernel
theorem hdX2_isSpan : yX2_isSpan.cls = RX2 ∧ yX2_isSpan.cls ≠ "java/lang/invoke/MethodHandle" ∧ yX2_isSpan.cls ≠ "java/lang/invoke/VarHandle" ∧ (parseMethodDescriptor yX2_isSpan.desc).map (fun d => d.parameters.length) = some 2 := by decide +kernel
theorem hdX2_payCurrentWeek : yX2_payCurrentWeek.cls = RX2 ∧ yX2_payCurrentWeek.cls ≠ "java/lang/invoke/MethodHandle" ∧ yX2_payCurrentWeek.cls ≠ "java/lang/invoke/VarHandle" ∧ (parseMethodDescriptor yX2_payCurrentWeek.desc).map (fun d => d.parameters.length) = some 0 := by decide +kernel
theorem in_X1_goTo_X0 : ∀ w ∈ wsX00, w ∈ wsX1_goTo := by decide +kernel
theorem in_X1_goTo_X1 : ∀ w ∈ wsX10, w ∈ wsX1_goTo := by decide +kernel
theorem in_X2_check_X2 : ∀ w ∈ wsX20, w ∈ wsX2_check := by decide +kernel
theorem in_X2_enrol_X0 : ∀ w ∈ wsX00, w ∈ wsX2_enrol := by decide +kernel
theorem in_X2_enrol_X2 : ∀ w ∈ wsX20, w ∈ wsX2_enrol := by decide +kernel
theorem in_X2_notice_X1 : ∀ w ∈ wsX10, w ∈ wsX2_notice := by decide +kernel
theorem in_X2_notice_X2 : ∀ w ∈ wsX20, w ∈ wsX2_notice := by decide +kernel
theorem in_X2_pass_X2 : ∀ w ∈ wsX20, w ∈ wsX2_pass := by decide +kernel
theorem in_X2_payCurrentWeek_X2 : ∀ w ∈ wsX20, w ∈ wsX2_payCurrentWeek := by decide +kernel
