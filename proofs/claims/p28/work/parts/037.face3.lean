theorem hX5_byArea_X5 : ∀ w ∈ wsX50, w ∈ wsX5_byArea := by decide +kernel
theorem hdX5_look : yX5_look.cls ≠ "java/lang/invoke/MethodHandle" ∧ yX5_look.cls ≠ "java/lang/invoke/VarHandle" ∧ (parseMethodDescriptor yX5_look.desc).map (fun d => d.parameters.length) = some 0 := by decide +kernel
theorem kX5_byArea_f48 : Cond.fieldLink RX5 48 "SignLetters" "areaRanking" "LSignLetters$Ranking;" ∈ wsX5_byArea := by decide +kernel
theorem kX5_byArea_x74 : Cond.classLink RX5 74 "java/lang/IllegalArgumentException" ∈ wsX5_byArea := by decide +kernel
theorem kX5_byArea_y74 : Cond.initialized "java/lang/IllegalArgumentException" ∈ wsX5_byArea := by decide +kernel
theorem hX5_byFault_X5 : ∀ w ∈ wsX50, w ∈ wsX5_byFault := by decide +kernel
theorem kX5_byFault_f52 : Cond.fieldLink RX5 52 "SignLetters" "faultRanking" "LSignLetters$Ranking;" ∈ wsX5_byFault := by decide +kernel
theorem kX5_byFault_x74 : Cond.classLink RX5 74 "java/lang/IllegalArgumentException" ∈ wsX5_byFault := by decide +kernel
theorem kX5_byFault_y74 : Cond.initialized "java/lang/IllegalArgumentException" ∈ wsX5_byFault := by decide +kernel
theorem hX5_item_X5 : ∀ w ∈ wsX50, w ∈ wsX5_item := by decide +kernel
theorem hdX5_itemNumber : yX5_itemNumber.cls ≠ "java/lang/invoke/MethodHandle" ∧ yX5_itemNumber.cls ≠ "java/lang/invoke/VarHandle" ∧ (parseMethodDescriptor yX5_itemNumber.desc).map (fun d => d.parameters.length) = some 3 := by decide +kernel
theorem kX5_item_f10 : Cond.fieldLink RX5 10 "SignLetters" "state" "LSignLetters$State;" ∈ wsX5_item := by decide +kernel
theorem kX5_item_x63 : Cond.classLink RX5 63 "java/lang/IndexOutOfBoundsException" ∈ wsX5_item := by decide +kernel
theorem kX5_item_x74 : Cond.classLink RX5 74 "java/lang/IllegalArgumentException" ∈ wsX5_item := by decide +kernel
theorem kX5_item_y63 : Cond.initialized "java/lang/IndexOutOfBoundsException" ∈ wsX5_item := by decide +kernel
theorem kX5_item_y74 : Cond.initialized "java/lang/IllegalArgumentException" ∈ wsX5_item := by decide +kernel
theorem hdX5_lineNumber : yX5_lineNumber.cls ≠ "java/lang/invoke/MethodHandle" ∧ yX5_lineNumber.cls ≠ "java/lang/invoke/VarHandle" ∧ (parseMethodDescriptor yX5_lineNumber.desc).map (fun d => d.parameters.length) = some 2 := by decide +kernel
theorem kX5_count_x74 : Cond.classLink RX5 74 "java/lang/IllegalArgumentException" ∈ wsX5_count := by decide +kernel
theorem kX5_count_y74 : Cond.initialized "java/lang/IllegalArgumentException" ∈ wsX5_count := by decide +kernel
