theorem hdX1_hasFilled : yX1_hasFilled.cls = RX1 ∧ yX1_hasFilled.cls ≠ "java/lang/invoke/MethodHandle" ∧ yX1_hasFilled.cls ≠ "java/lang/invoke/VarHandle" ∧ (parseMethodDescriptor yX1_hasFilled.desc).map (fun d => d.parameters.length) = some 1 := by decide +kernel
theorem hdX1_madeUpPercent : yX1_madeUpPercent.cls = RX1 ∧ yX1_madeUpPercent.cls ≠ "java/lang/invoke/MethodHandle" ∧ yX1_madeUpPercent.cls ≠ "java/lang/invoke/VarHandle" ∧ (parseMethodDescriptor yX1_madeUpPercent.desc).map (fun d => d.parameters.length) = some 1 := by decide +kernel
theorem hdX1_stepPercent : yX1_stepPercent.cls = RX1 ∧ yX1_stepPercent.cls ≠ "java/lang/invoke/MethodHandle" ∧ yX1_stepPercent.cls ≠ "java/lang/invoke/VarHandle" ∧ (parseMethodDescriptor yX1_stepPercent.desc).map (fun d => d.parameters.length) = some 0 := by decide +kernel
theorem hdX2_isWithin : yX2_isWithin.cls = RX2 ∧ yX2_isWithin.cls ≠ "java/lang/invoke/MethodHandle" ∧ yX2_isWithin.cls ≠ "java/lang/invoke/VarHandle" ∧ (parseMethodDescriptor yX2_isWithin.desc).map (fun d => d.parameters.length) = some 3 := by decide +kernel
theorem in_X1_hasFilled_X1 : ∀ w ∈ wsX10, w ∈ wsX1_hasFilled := by decide +kernel
theorem in_X1_hasWorkedTooMuch_X1 : ∀ w ∈ wsX10, w ∈ wsX1_hasWorkedTooMuch := by decide +kernel
theorem in_X1_madeUpPercent_X1 : ∀ w ∈ wsX10, w ∈ wsX1_madeUpPercent := by decide +kernel
theorem in_X1_payFor_X1 : ∀ w ∈ wsX10, w ∈ wsX1_payFor := by decide +kernel
theorem in_X1_stepPercent_X1 : ∀ w ∈ wsX10, w ∈ wsX1_stepPercent := by decide +kernel
theorem in_X2_courseAt_X2 : ∀ w ∈ wsX20, w ∈ wsX2_courseAt := by decide +kernel
theorem in_X2_firmOwes_X2 : ∀ w ∈ wsX20, w ∈ wsX2_firmOwes := by decide +kernel
theorem in_X2_hasPassed_X2 : ∀ w ∈ wsX20, w ∈ wsX2_hasPassed := by decide +kernel
theorem in_X2_week_X2 : ∀ w ∈ wsX20, w ∈ wsX2_week := by decide +kernel
theorem in_X2_workerAt_X2 : ∀ w ∈ wsX20, w ∈ wsX2_workerAt := by decide +kernel
theorem in_X2_workers_X2 : ∀ w ∈ wsX20, w ∈ wsX2_workers := by decide +kernel
theorem thr_X2_requireArgument : ∀ w ∈ (vx_at0 RX2 146 "java/lang/IllegalArgumentException" ["java/lang/RuntimeException", "java/lang/Exception"]).filter goodWord, w ∈ wsX2_requireArgument := by decide +kernel
theorem thr_X2_requireArgument_c : ∀ w ∈ (vx_at0 RX2 146 "java/lang/IllegalArgumentException" ["java/lang/RuntimeException", "java/lang/Exception"]).filter (fun w => !goodWord w), w ∈ exW := by decide +kernel
theorem thr_X2_requireArgument_ot : ∀ w ∈ Cond.classLink RX2 144 "java/lang/IllegalArgumentException" :: Cond.initialized "java/lang/IllegalArgumentException" :: vx_at0 RX2 146 "java/lang/IllegalArgumentException" ["java/lang/RuntimeException", "java/lang/Exception"], vx_ot w = true := by decide +kernel
theorem thr_X2_requireState : ∀ w ∈ (vx_at0 RX2 149 "java/lang/IllegalStateException" ["java/lang/RuntimeException", "java/lang/Exception"]).filter goodWord, w ∈ wsX2_requireState := by decide +kernel
theorem thr_X2_requireState_c : ∀ w ∈ (vx_at0 RX2 149 "java/lang/IllegalStateException" ["java/lang/RuntimeException", "java/lang/Exception"]).filter (fun w => !goodWord w), w ∈ exW := by decide +kernel
theorem thr_X2_requireState_ot : ∀ w ∈ Cond.classLink RX2 147 "java/lang/IllegalStateException" :: Cond.initialized "java/lang/IllegalStateException" :: vx_at0 RX2 149 "java/lang/IllegalStateException" ["java/lang/RuntimeException", "java/lang/Exception"], vx_ot w = true := by decide +kernel
theorem thr_X2_workerAt : ∀ w ∈ (vx_at0 RX2 143 "java/lang/IndexOutOfBoundsException" ["java/lang/RuntimeException", "java/lang/Exception"]).filter goodWord, w ∈ wsX2_workerAt := by decide +kernel
theorem thr_X2_workerAt_c : ∀ w ∈ (vx_at0 RX2 143 "java/lang/IndexOutOfBoundsException" ["java/lang/RuntimeException", "java/lang/Exception"]).filter (fun w => !goodWord w), w ∈ exW := by decide +kernel
theorem thr_X2_workerAt_ot : ∀ w ∈ Cond.classLink RX2 141 "java/lang/IndexOutOfBoundsException" :: Cond.initialized "java/lang/IndexOutOfBoundsException" :: vx_at0 RX2 143 "java/lang/IndexOutOfBoundsException" ["java/lang/RuntimeException", "java/lang/Exception"], vx_ot w = true := by decide +kernel
theorem thr_X2_courseAt : ∀ w ∈ (vx_at0 RX2 143 "java/lang/IndexOutOfBoundsException" ["java/lang/RuntimeException", "java/lang/Exception"]).filter goodWord, w ∈ wsX2_courseAt := by decide +kernel
theorem thr_X2_courseAt_c : ∀ w ∈ (vx_at0 RX2 143 "java/lang/IndexOutOfBoundsException" ["java/lang/RuntimeException", "java/lang/Exception"]).filter (fun w => !goodWord w), w ∈ exW := by decide +kernel
theorem thr_X2_courseAt_ot : ∀ w ∈ Cond.classLink RX2 141 "java/lang/IndexOutOfBoundsException" :: Cond.initialized "java/lang/IndexOutOfBoundsException" :: vx_at0 RX2 143 "java/lang/IndexOutOfBoundsException" ["java/lang/RuntimeException", "java/lang/Exception"], vx_ot w = true := by decide +kernel

