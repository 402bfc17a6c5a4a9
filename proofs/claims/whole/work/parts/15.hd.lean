theorem ne8 {n : Nat} (h : n < 8) : ¬ nI n = 8 := fun e => by
  have h1 := (nI_eq (a := n) (b := 8) (by omega) (by decide)).mp e
  omega
theorem hdX3_asks : yX3_asks.cls = RX3 ∧ yX3_asks.cls ≠ "java/lang/invoke/MethodHandle" ∧ yX3_asks.cls ≠ "java/lang/invoke/VarHandle" ∧ (parseMethodDescriptor yX3_asks.desc).map (fun d => d.parameters.length) = some 1 := by decide +kernel
theorem hdX3_cutOf : yX3_cutOf.cls = RX3 ∧ yX3_cutOf.cls ≠ "java/lang/invoke/MethodHandle" ∧ yX3_cutOf.cls ≠ "java/lang/invoke/VarHandle" ∧ (parseMethodDescriptor yX3_cutOf.desc).map (fun d => d.parameters.length) = some 2 := by decide +kernel
theorem hdX3_fails : yX3_fails.cls = RX3 ∧ yX3_fails.cls ≠ "java/lang/invoke/MethodHandle" ∧ yX3_fails.cls ≠ "java/lang/invoke/VarHandle" ∧ (parseMethodDescriptor yX3_fails.desc).map (fun d => d.parameters.length) = some 1 := by decide +kernel
theorem hdX3_fills : yX3_fills.cls = RX3 ∧ yX3_fills.cls ≠ "java/lang/invoke/MethodHandle" ∧ yX3_fills.cls ≠ "java/lang/invoke/VarHandle" ∧ (parseMethodDescriptor yX3_fills.desc).map (fun d => d.parameters.length) = some 2 := by decide +kernel
theorem hdX3_in : yX3_in.cls = RX3 ∧ yX3_in.cls ≠ "java/lang/invoke/MethodHandle" ∧ yX3_in.cls ≠ "java/lang/invoke/VarHandle" ∧ (parseMethodDescriptor yX3_in.desc).map (fun d => d.parameters.length) = some 3 := by decide +kernel
theorem hdX3_isPast : yX3_isPast.cls = RX3 ∧ yX3_isPast.cls ≠ "java/lang/invoke/MethodHandle" ∧ yX3_isPast.cls ≠ "java/lang/invoke/VarHandle" ∧ (parseMethodDescriptor yX3_isPast.desc).map (fun d => d.parameters.length) = some 1 := by decide +kernel
theorem hdX3_isWorker : yX3_isWorker.cls = RX3 ∧ yX3_isWorker.cls ≠ "java/lang/invoke/MethodHandle" ∧ yX3_isWorker.cls ≠ "java/lang/invoke/VarHandle" ∧ (parseMethodDescriptor yX3_isWorker.desc).map (fun d => d.parameters.length) = some 1 := by decide +kernel
theorem in_X3_add_X3 : ∀ w ∈ wsX30, w ∈ wsX3_add := by decide +kernel
theorem in_X3_asks_X3 : ∀ w ∈ wsX30, w ∈ wsX3_asks := by decide +kernel
theorem in_X3_cutOf_X3 : ∀ w ∈ wsX30, w ∈ wsX3_cutOf := by decide +kernel
theorem in_X3_cutWeeks_X3 : ∀ w ∈ wsX30, w ∈ wsX3_cutWeeks := by decide +kernel
theorem in_X3_door_X3 : ∀ w ∈ wsX30, w ∈ wsX3_door := by decide +kernel
theorem in_X3_fails_X3 : ∀ w ∈ wsX30, w ∈ wsX3_fails := by decide +kernel
theorem in_X3_fills_X3 : ∀ w ∈ wsX30, w ∈ wsX3_fills := by decide +kernel
theorem in_X3_firmOwes_X3 : ∀ w ∈ wsX30, w ∈ wsX3_firmOwes := by decide +kernel
theorem in_X3_isCourse_X3 : ∀ w ∈ wsX30, w ∈ wsX3_isCourse := by decide +kernel
theorem in_X3_isPast_X3 : ∀ w ∈ wsX30, w ∈ wsX3_isPast := by decide +kernel
theorem in_X3_isWorker_X3 : ∀ w ∈ wsX30, w ∈ wsX3_isWorker := by decide +kernel
theorem in_X3_madeUp_X3 : ∀ w ∈ wsX30, w ∈ wsX3_madeUp := by decide +kernel
theorem in_X3_mail_X3 : ∀ w ∈ wsX30, w ∈ wsX3_mail := by decide +kernel
theorem in_X3_meets_X3 : ∀ w ∈ wsX30, w ∈ wsX3_meets := by decide +kernel
theorem in_X3_owes_X3 : ∀ w ∈ wsX30, w ∈ wsX3_owes := by decide +kernel
theorem in_X3_paid_X3 : ∀ w ∈ wsX30, w ∈ wsX3_paid := by decide +kernel
theorem in_X3_percent_X3 : ∀ w ∈ wsX30, w ∈ wsX3_percent := by decide +kernel
theorem in_X3_setFloor_X3 : ∀ w ∈ wsX30, w ∈ wsX3_setFloor := by decide +kernel
theorem in_X3_thrown_X3 : ∀ w ∈ wsX30, w ∈ wsX3_thrown := by decide +kernel
theorem in_X3_week_X3 : ∀ w ∈ wsX30, w ∈ wsX3_week := by decide +kernel
theorem in_X3_workers_X3 : ∀ w ∈ wsX30, w ∈ wsX3_workers := by decide +kernel
