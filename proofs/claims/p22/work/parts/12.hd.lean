theorem hdX2_hasPassed : yX2_hasPassed.cls = RX2 ∧ yX2_hasPassed.cls ≠ "java/lang/invoke/MethodHandle" ∧ yX2_hasPassed.cls ≠ "java/lang/invoke/VarHandle" ∧ (parseMethodDescriptor yX2_hasPassed.desc).map (fun d => d.parameters.length) = some 1 := by decide +kernel
theorem hdX2_requireArgument : yX2_requireArgument.cls = RX2 ∧ yX2_requireArgument.cls ≠ "java/lang/invoke/MethodHandle" ∧ yX2_requireArgument.cls ≠ "java/lang/invoke/VarHandle" ∧ (parseMethodDescriptor yX2_requireArgument.desc).map (fun d => d.parameters.length) = some 1 := by decide +kernel
theorem hdX2_requireState : yX2_requireState.cls = RX2 ∧ yX2_requireState.cls ≠ "java/lang/invoke/MethodHandle" ∧ yX2_requireState.cls ≠ "java/lang/invoke/VarHandle" ∧ (parseMethodDescriptor yX2_requireState.desc).map (fun d => d.parameters.length) = some 1 := by decide +kernel
theorem hdX2_workerAt : yX2_workerAt.cls = RX2 ∧ yX2_workerAt.cls ≠ "java/lang/invoke/MethodHandle" ∧ yX2_workerAt.cls ≠ "java/lang/invoke/VarHandle" ∧ (parseMethodDescriptor yX2_workerAt.desc).map (fun d => d.parameters.length) = some 1 := by decide +kernel
theorem in_X1_hasNoCourseFrom_X1 : ∀ w ∈ wsX10, w ∈ wsX1_hasNoCourseFrom := by decide +kernel
theorem in_X1_takeNotice_X1 : ∀ w ∈ wsX10, w ∈ wsX1_takeNotice := by decide +kernel
theorem in_X2_chargeBack_X1 : ∀ w ∈ wsX10, w ∈ wsX2_chargeBack := by decide +kernel
theorem in_X2_chargeBack_X2 : ∀ w ∈ wsX20, w ∈ wsX2_chargeBack := by decide +kernel
theorem in_X2_cut_X1 : ∀ w ∈ wsX10, w ∈ wsX2_cut := by decide +kernel
theorem in_X2_cutWeeks_X1 : ∀ w ∈ wsX10, w ∈ wsX2_cutWeeks := by decide +kernel
theorem in_X2_door_X1 : ∀ w ∈ wsX10, w ∈ wsX2_door := by decide +kernel
theorem in_X2_door_X2 : ∀ w ∈ wsX20, w ∈ wsX2_door := by decide +kernel
theorem in_X2_madeUp_X1 : ∀ w ∈ wsX10, w ∈ wsX2_madeUp := by decide +kernel
theorem in_X2_mail_X1 : ∀ w ∈ wsX10, w ∈ wsX2_mail := by decide +kernel
theorem in_X2_mail_X2 : ∀ w ∈ wsX20, w ∈ wsX2_mail := by decide +kernel
theorem in_X2_net_X1 : ∀ w ∈ wsX10, w ∈ wsX2_net := by decide +kernel
theorem in_X2_owes_X1 : ∀ w ∈ wsX10, w ∈ wsX2_owes := by decide +kernel
theorem in_X2_paid_X1 : ∀ w ∈ wsX10, w ∈ wsX2_paid := by decide +kernel
theorem in_X2_setFloor_X2 : ∀ w ∈ wsX20, w ∈ wsX2_setFloor := by decide +kernel

