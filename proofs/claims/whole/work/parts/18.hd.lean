theorem hdX3_isCourse : yX3_isCourse.cls = RX3 ∧ yX3_isCourse.cls ≠ "java/lang/invoke/MethodHandle" ∧ yX3_isCourse.cls ≠ "java/lang/invoke/VarHandle" ∧ (parseMethodDescriptor yX3_isCourse.desc).map (fun d => d.parameters.length) = some 1 := by decide +kernel
theorem hdX3_meets : yX3_meets.cls = RX3 ∧ yX3_meets.cls ≠ "java/lang/invoke/MethodHandle" ∧ yX3_meets.cls ≠ "java/lang/invoke/VarHandle" ∧ (parseMethodDescriptor yX3_meets.desc).map (fun d => d.parameters.length) = some 2 := by decide +kernel
theorem hdX3_percent : yX3_percent.cls = RX3 ∧ yX3_percent.cls ≠ "java/lang/invoke/MethodHandle" ∧ yX3_percent.cls ≠ "java/lang/invoke/VarHandle" ∧ (parseMethodDescriptor yX3_percent.desc).map (fun d => d.parameters.length) = some 1 := by decide +kernel
theorem in_X3_addCourse_X3 : ∀ w ∈ wsX30, w ∈ wsX3_addCourse := by decide +kernel
theorem in_X3_check_X3 : ∀ w ∈ wsX30, w ∈ wsX3_check := by decide +kernel
theorem in_X3_enrol_X3 : ∀ w ∈ wsX30, w ∈ wsX3_enrol := by decide +kernel
theorem in_X3_net_X3 : ∀ w ∈ wsX30, w ∈ wsX3_net := by decide +kernel
theorem in_X3_notice_X3 : ∀ w ∈ wsX30, w ∈ wsX3_notice := by decide +kernel
theorem in_X3_pays_X3 : ∀ w ∈ wsX30, w ∈ wsX3_pays := by decide +kernel
