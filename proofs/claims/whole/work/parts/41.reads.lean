/-! rows of methods, laid by a program of mine (wip/whole/walk.py) out of the bytecode and annotations -/
theorem qd_X6_apart : yX6_apart.cls ≠ "java/lang/invoke/MethodHandle" ∧ yX6_apart.cls ≠ "java/lang/invoke/VarHandle" ∧ (parseMethodDescriptor yX6_apart.desc).map (fun d => d.parameters.length) = some 2 := by decide +kernel
theorem qv_X6_apart : yX6_apart.cls = RX6 ∧ yX6_apart.cls ≠ "java/lang/invoke/MethodHandle" ∧ yX6_apart.cls ≠ "java/lang/invoke/VarHandle" ∧ (parseMethodDescriptor yX6_apart.desc).map (fun d => d.parameters.length) = some 2 := ⟨rfl, qd_X6_apart⟩
theorem qd_X6_day : yX6_day.cls ≠ "java/lang/invoke/MethodHandle" ∧ yX6_day.cls ≠ "java/lang/invoke/VarHandle" ∧ (parseMethodDescriptor yX6_day.desc).map (fun d => d.parameters.length) = some 0 := by decide +kernel
theorem qv_X6_day : yX6_day.cls = RX6 ∧ yX6_day.cls ≠ "java/lang/invoke/MethodHandle" ∧ yX6_day.cls ≠ "java/lang/invoke/VarHandle" ∧ (parseMethodDescriptor yX6_day.desc).map (fun d => d.parameters.length) = some 0 := ⟨rfl, qd_X6_day⟩
theorem qd_X6_decider : yX6_decider.cls ≠ "java/lang/invoke/MethodHandle" ∧ yX6_decider.cls ≠ "java/lang/invoke/VarHandle" ∧ (parseMethodDescriptor yX6_decider.desc).map (fun d => d.parameters.length) = some 1 := by decide +kernel
theorem qv_X6_decider : yX6_decider.cls = RX6 ∧ yX6_decider.cls ≠ "java/lang/invoke/MethodHandle" ∧ yX6_decider.cls ≠ "java/lang/invoke/VarHandle" ∧ (parseMethodDescriptor yX6_decider.desc).map (fun d => d.parameters.length) = some 1 := ⟨rfl, qd_X6_decider⟩
theorem qd_X6_dueDay : yX6_dueDay.cls ≠ "java/lang/invoke/MethodHandle" ∧ yX6_dueDay.cls ≠ "java/lang/invoke/VarHandle" ∧ (parseMethodDescriptor yX6_dueDay.desc).map (fun d => d.parameters.length) = some 1 := by decide +kernel
theorem qv_X6_dueDay : yX6_dueDay.cls = RX6 ∧ yX6_dueDay.cls ≠ "java/lang/invoke/MethodHandle" ∧ yX6_dueDay.cls ≠ "java/lang/invoke/VarHandle" ∧ (parseMethodDescriptor yX6_dueDay.desc).map (fun d => d.parameters.length) = some 1 := ⟨rfl, qd_X6_dueDay⟩
theorem qd_X6_entries : yX6_entries.cls ≠ "java/lang/invoke/MethodHandle" ∧ yX6_entries.cls ≠ "java/lang/invoke/VarHandle" ∧ (parseMethodDescriptor yX6_entries.desc).map (fun d => d.parameters.length) = some 0 := by decide +kernel
theorem qv_X6_entries : yX6_entries.cls = RX6 ∧ yX6_entries.cls ≠ "java/lang/invoke/MethodHandle" ∧ yX6_entries.cls ≠ "java/lang/invoke/VarHandle" ∧ (parseMethodDescriptor yX6_entries.desc).map (fun d => d.parameters.length) = some 0 := ⟨rfl, qd_X6_entries⟩
theorem qd_X6_grantOf : yX6_grantOf.cls ≠ "java/lang/invoke/MethodHandle" ∧ yX6_grantOf.cls ≠ "java/lang/invoke/VarHandle" ∧ (parseMethodDescriptor yX6_grantOf.desc).map (fun d => d.parameters.length) = some 1 := by decide +kernel
theorem qv_X6_grantOf : yX6_grantOf.cls = RX6 ∧ yX6_grantOf.cls ≠ "java/lang/invoke/MethodHandle" ∧ yX6_grantOf.cls ≠ "java/lang/invoke/VarHandle" ∧ (parseMethodDescriptor yX6_grantOf.desc).map (fun d => d.parameters.length) = some 1 := ⟨rfl, qd_X6_grantOf⟩
theorem qd_X6_grants : yX6_grants.cls ≠ "java/lang/invoke/MethodHandle" ∧ yX6_grants.cls ≠ "java/lang/invoke/VarHandle" ∧ (parseMethodDescriptor yX6_grants.desc).map (fun d => d.parameters.length) = some 0 := by decide +kernel
theorem qv_X6_grants : yX6_grants.cls = RX6 ∧ yX6_grants.cls ≠ "java/lang/invoke/MethodHandle" ∧ yX6_grants.cls ≠ "java/lang/invoke/VarHandle" ∧ (parseMethodDescriptor yX6_grants.desc).map (fun d => d.parameters.length) = some 0 := ⟨rfl, qd_X6_grants⟩
theorem qd_X6_holdersOf : yX6_holdersOf.cls ≠ "java/lang/invoke/MethodHandle" ∧ yX6_holdersOf.cls ≠ "java/lang/invoke/VarHandle" ∧ (parseMethodDescriptor yX6_holdersOf.desc).map (fun d => d.parameters.length) = some 1 := by decide +kernel
theorem qv_X6_holdersOf : yX6_holdersOf.cls = RX6 ∧ yX6_holdersOf.cls ≠ "java/lang/invoke/MethodHandle" ∧ yX6_holdersOf.cls ≠ "java/lang/invoke/VarHandle" ∧ (parseMethodDescriptor yX6_holdersOf.desc).map (fun d => d.parameters.length) = some 1 := ⟨rfl, qd_X6_holdersOf⟩
theorem qd_X6_holds : yX6_holds.cls ≠ "java/lang/invoke/MethodHandle" ∧ yX6_holds.cls ≠ "java/lang/invoke/VarHandle" ∧ (parseMethodDescriptor yX6_holds.desc).map (fun d => d.parameters.length) = some 2 := by decide +kernel
theorem qv_X6_holds : yX6_holds.cls = RX6 ∧ yX6_holds.cls ≠ "java/lang/invoke/MethodHandle" ∧ yX6_holds.cls ≠ "java/lang/invoke/VarHandle" ∧ (parseMethodDescriptor yX6_holds.desc).map (fun d => d.parameters.length) = some 2 := ⟨rfl, qd_X6_holds⟩
theorem qd_X6_holdsByPaths : yX6_holdsByPaths.cls ≠ "java/lang/invoke/MethodHandle" ∧ yX6_holdsByPaths.cls ≠ "java/lang/invoke/VarHandle" ∧ (parseMethodDescriptor yX6_holdsByPaths.desc).map (fun d => d.parameters.length) = some 2 := by decide +kernel
theorem qv_X6_holdsByPaths : yX6_holdsByPaths.cls = RX6 ∧ yX6_holdsByPaths.cls ≠ "java/lang/invoke/MethodHandle" ∧ yX6_holdsByPaths.cls ≠ "java/lang/invoke/VarHandle" ∧ (parseMethodDescriptor yX6_holdsByPaths.desc).map (fun d => d.parameters.length) = some 2 := ⟨rfl, qd_X6_holdsByPaths⟩
theorem qd_X6_isBlocked : yX6_isBlocked.cls ≠ "java/lang/invoke/MethodHandle" ∧ yX6_isBlocked.cls ≠ "java/lang/invoke/VarHandle" ∧ (parseMethodDescriptor yX6_isBlocked.desc).map (fun d => d.parameters.length) = some 1 := by decide +kernel
theorem qv_X6_isBlocked : yX6_isBlocked.cls = RX6 ∧ yX6_isBlocked.cls ≠ "java/lang/invoke/MethodHandle" ∧ yX6_isBlocked.cls ≠ "java/lang/invoke/VarHandle" ∧ (parseMethodDescriptor yX6_isBlocked.desc).map (fun d => d.parameters.length) = some 1 := ⟨rfl, qd_X6_isBlocked⟩
theorem qd_X6_isDenied : yX6_isDenied.cls ≠ "java/lang/invoke/MethodHandle" ∧ yX6_isDenied.cls ≠ "java/lang/invoke/VarHandle" ∧ (parseMethodDescriptor yX6_isDenied.desc).map (fun d => d.parameters.length) = some 2 := by decide +kernel
theorem qv_X6_isDenied : yX6_isDenied.cls = RX6 ∧ yX6_isDenied.cls ≠ "java/lang/invoke/MethodHandle" ∧ yX6_isDenied.cls ≠ "java/lang/invoke/VarHandle" ∧ (parseMethodDescriptor yX6_isDenied.desc).map (fun d => d.parameters.length) = some 2 := ⟨rfl, qd_X6_isDenied⟩
theorem qd_X6_isMember : yX6_isMember.cls ≠ "java/lang/invoke/MethodHandle" ∧ yX6_isMember.cls ≠ "java/lang/invoke/VarHandle" ∧ (parseMethodDescriptor yX6_isMember.desc).map (fun d => d.parameters.length) = some 2 := by decide +kernel
theorem qv_X6_isMember : yX6_isMember.cls = RX6 ∧ yX6_isMember.cls ≠ "java/lang/invoke/MethodHandle" ∧ yX6_isMember.cls ≠ "java/lang/invoke/VarHandle" ∧ (parseMethodDescriptor yX6_isMember.desc).map (fun d => d.parameters.length) = some 2 := ⟨rfl, qd_X6_isMember⟩
theorem qd_X6_isOpen : yX6_isOpen.cls ≠ "java/lang/invoke/MethodHandle" ∧ yX6_isOpen.cls ≠ "java/lang/invoke/VarHandle" ∧ (parseMethodDescriptor yX6_isOpen.desc).map (fun d => d.parameters.length) = some 0 := by decide +kernel
theorem qv_X6_isOpen : yX6_isOpen.cls = RX6 ∧ yX6_isOpen.cls ≠ "java/lang/invoke/MethodHandle" ∧ yX6_isOpen.cls ≠ "java/lang/invoke/VarHandle" ∧ (parseMethodDescriptor yX6_isOpen.desc).map (fun d => d.parameters.length) = some 0 := ⟨rfl, qd_X6_isOpen⟩
theorem qd_X6_items : yX6_items.cls ≠ "java/lang/invoke/MethodHandle" ∧ yX6_items.cls ≠ "java/lang/invoke/VarHandle" ∧ (parseMethodDescriptor yX6_items.desc).map (fun d => d.parameters.length) = some 0 := by decide +kernel
theorem qv_X6_items : yX6_items.cls = RX6 ∧ yX6_items.cls ≠ "java/lang/invoke/MethodHandle" ∧ yX6_items.cls ≠ "java/lang/invoke/VarHandle" ∧ (parseMethodDescriptor yX6_items.desc).map (fun d => d.parameters.length) = some 0 := ⟨rfl, qd_X6_items⟩
theorem qd_X6_lastUse : yX6_lastUse.cls ≠ "java/lang/invoke/MethodHandle" ∧ yX6_lastUse.cls ≠ "java/lang/invoke/VarHandle" ∧ (parseMethodDescriptor yX6_lastUse.desc).map (fun d => d.parameters.length) = some 1 := by decide +kernel
theorem qv_X6_lastUse : yX6_lastUse.cls = RX6 ∧ yX6_lastUse.cls ≠ "java/lang/invoke/MethodHandle" ∧ yX6_lastUse.cls ≠ "java/lang/invoke/VarHandle" ∧ (parseMethodDescriptor yX6_lastUse.desc).map (fun d => d.parameters.length) = some 1 := ⟨rfl, qd_X6_lastUse⟩
theorem qd_X6_members : yX6_members.cls ≠ "java/lang/invoke/MethodHandle" ∧ yX6_members.cls ≠ "java/lang/invoke/VarHandle" ∧ (parseMethodDescriptor yX6_members.desc).map (fun d => d.parameters.length) = some 1 := by decide +kernel
theorem qv_X6_members : yX6_members.cls = RX6 ∧ yX6_members.cls ≠ "java/lang/invoke/MethodHandle" ∧ yX6_members.cls ≠ "java/lang/invoke/VarHandle" ∧ (parseMethodDescriptor yX6_members.desc).map (fun d => d.parameters.length) = some 1 := ⟨rfl, qd_X6_members⟩
theorem qd_X6_nextItem : yX6_nextItem.cls ≠ "java/lang/invoke/MethodHandle" ∧ yX6_nextItem.cls ≠ "java/lang/invoke/VarHandle" ∧ (parseMethodDescriptor yX6_nextItem.desc).map (fun d => d.parameters.length) = some 1 := by decide +kernel
theorem qv_X6_nextItem : yX6_nextItem.cls = RX6 ∧ yX6_nextItem.cls ≠ "java/lang/invoke/MethodHandle" ∧ yX6_nextItem.cls ≠ "java/lang/invoke/VarHandle" ∧ (parseMethodDescriptor yX6_nextItem.desc).map (fun d => d.parameters.length) = some 1 := ⟨rfl, qd_X6_nextItem⟩
theorem qd_X6_pathAt : yX6_pathAt.cls ≠ "java/lang/invoke/MethodHandle" ∧ yX6_pathAt.cls ≠ "java/lang/invoke/VarHandle" ∧ (parseMethodDescriptor yX6_pathAt.desc).map (fun d => d.parameters.length) = some 3 := by decide +kernel
theorem qv_X6_pathAt : yX6_pathAt.cls = RX6 ∧ yX6_pathAt.cls ≠ "java/lang/invoke/MethodHandle" ∧ yX6_pathAt.cls ≠ "java/lang/invoke/VarHandle" ∧ (parseMethodDescriptor yX6_pathAt.desc).map (fun d => d.parameters.length) = some 3 := ⟨rfl, qd_X6_pathAt⟩
theorem qd_X6_pathLength : yX6_pathLength.cls ≠ "java/lang/invoke/MethodHandle" ∧ yX6_pathLength.cls ≠ "java/lang/invoke/VarHandle" ∧ (parseMethodDescriptor yX6_pathLength.desc).map (fun d => d.parameters.length) = some 2 := by decide +kernel
theorem qv_X6_pathLength : yX6_pathLength.cls = RX6 ∧ yX6_pathLength.cls ≠ "java/lang/invoke/MethodHandle" ∧ yX6_pathLength.cls ≠ "java/lang/invoke/VarHandle" ∧ (parseMethodDescriptor yX6_pathLength.desc).map (fun d => d.parameters.length) = some 2 := ⟨rfl, qd_X6_pathLength⟩
theorem qd_X6_paths : yX6_paths.cls ≠ "java/lang/invoke/MethodHandle" ∧ yX6_paths.cls ≠ "java/lang/invoke/VarHandle" ∧ (parseMethodDescriptor yX6_paths.desc).map (fun d => d.parameters.length) = some 2 := by decide +kernel
theorem qv_X6_paths : yX6_paths.cls = RX6 ∧ yX6_paths.cls ≠ "java/lang/invoke/MethodHandle" ∧ yX6_paths.cls ≠ "java/lang/invoke/VarHandle" ∧ (parseMethodDescriptor yX6_paths.desc).map (fun d => d.parameters.length) = some 2 := ⟨rfl, qd_X6_paths⟩
theorem qd_X6_people : yX6_people.cls ≠ "java/lang/invoke/MethodHandle" ∧ yX6_people.cls ≠ "java/lang/invoke/VarHandle" ∧ (parseMethodDescriptor yX6_people.desc).map (fun d => d.parameters.length) = some 0 := by decide +kernel
theorem qv_X6_people : yX6_people.cls = RX6 ∧ yX6_people.cls ≠ "java/lang/invoke/MethodHandle" ∧ yX6_people.cls ≠ "java/lang/invoke/VarHandle" ∧ (parseMethodDescriptor yX6_people.desc).map (fun d => d.parameters.length) = some 0 := ⟨rfl, qd_X6_people⟩
theorem qd_X6_reviewerOf : yX6_reviewerOf.cls ≠ "java/lang/invoke/MethodHandle" ∧ yX6_reviewerOf.cls ≠ "java/lang/invoke/VarHandle" ∧ (parseMethodDescriptor yX6_reviewerOf.desc).map (fun d => d.parameters.length) = some 1 := by decide +kernel
theorem qv_X6_reviewerOf : yX6_reviewerOf.cls = RX6 ∧ yX6_reviewerOf.cls ≠ "java/lang/invoke/MethodHandle" ∧ yX6_reviewerOf.cls ≠ "java/lang/invoke/VarHandle" ∧ (parseMethodDescriptor yX6_reviewerOf.desc).map (fun d => d.parameters.length) = some 1 := ⟨rfl, qd_X6_reviewerOf⟩
theorem qd_X6_rightBits : yX6_rightBits.cls ≠ "java/lang/invoke/MethodHandle" ∧ yX6_rightBits.cls ≠ "java/lang/invoke/VarHandle" ∧ (parseMethodDescriptor yX6_rightBits.desc).map (fun d => d.parameters.length) = some 1 := by decide +kernel
theorem qv_X6_rightBits : yX6_rightBits.cls = RX6 ∧ yX6_rightBits.cls ≠ "java/lang/invoke/MethodHandle" ∧ yX6_rightBits.cls ≠ "java/lang/invoke/VarHandle" ∧ (parseMethodDescriptor yX6_rightBits.desc).map (fun d => d.parameters.length) = some 1 := ⟨rfl, qd_X6_rightBits⟩
theorem qd_X6_rightsOf : yX6_rightsOf.cls ≠ "java/lang/invoke/MethodHandle" ∧ yX6_rightsOf.cls ≠ "java/lang/invoke/VarHandle" ∧ (parseMethodDescriptor yX6_rightsOf.desc).map (fun d => d.parameters.length) = some 1 := by decide +kernel
theorem qv_X6_rightsOf : yX6_rightsOf.cls = RX6 ∧ yX6_rightsOf.cls ≠ "java/lang/invoke/MethodHandle" ∧ yX6_rightsOf.cls ≠ "java/lang/invoke/VarHandle" ∧ (parseMethodDescriptor yX6_rightsOf.desc).map (fun d => d.parameters.length) = some 1 := ⟨rfl, qd_X6_rightsOf⟩
theorem qd_X6_riskFor : yX6_riskFor.cls ≠ "java/lang/invoke/MethodHandle" ∧ yX6_riskFor.cls ≠ "java/lang/invoke/VarHandle" ∧ (parseMethodDescriptor yX6_riskFor.desc).map (fun d => d.parameters.length) = some 2 := by decide +kernel
theorem qv_X6_riskFor : yX6_riskFor.cls = RX6 ∧ yX6_riskFor.cls ≠ "java/lang/invoke/MethodHandle" ∧ yX6_riskFor.cls ≠ "java/lang/invoke/VarHandle" ∧ (parseMethodDescriptor yX6_riskFor.desc).map (fun d => d.parameters.length) = some 2 := ⟨rfl, qd_X6_riskFor⟩
theorem qd_X6_riskOf : yX6_riskOf.cls ≠ "java/lang/invoke/MethodHandle" ∧ yX6_riskOf.cls ≠ "java/lang/invoke/VarHandle" ∧ (parseMethodDescriptor yX6_riskOf.desc).map (fun d => d.parameters.length) = some 1 := by decide +kernel
theorem qv_X6_riskOf : yX6_riskOf.cls = RX6 ∧ yX6_riskOf.cls ≠ "java/lang/invoke/MethodHandle" ∧ yX6_riskOf.cls ≠ "java/lang/invoke/VarHandle" ∧ (parseMethodDescriptor yX6_riskOf.desc).map (fun d => d.parameters.length) = some 1 := ⟨rfl, qd_X6_riskOf⟩
theorem qd_X6_sealAt : yX6_sealAt.cls ≠ "java/lang/invoke/MethodHandle" ∧ yX6_sealAt.cls ≠ "java/lang/invoke/VarHandle" ∧ (parseMethodDescriptor yX6_sealAt.desc).map (fun d => d.parameters.length) = some 1 := by decide +kernel
theorem qv_X6_sealAt : yX6_sealAt.cls = RX6 ∧ yX6_sealAt.cls ≠ "java/lang/invoke/MethodHandle" ∧ yX6_sealAt.cls ≠ "java/lang/invoke/VarHandle" ∧ (parseMethodDescriptor yX6_sealAt.desc).map (fun d => d.parameters.length) = some 1 := ⟨rfl, qd_X6_sealAt⟩
theorem qd_X6_sealByReplay : yX6_sealByReplay.cls ≠ "java/lang/invoke/MethodHandle" ∧ yX6_sealByReplay.cls ≠ "java/lang/invoke/VarHandle" ∧ (parseMethodDescriptor yX6_sealByReplay.desc).map (fun d => d.parameters.length) = some 1 := by decide +kernel
theorem qv_X6_sealByReplay : yX6_sealByReplay.cls = RX6 ∧ yX6_sealByReplay.cls ≠ "java/lang/invoke/MethodHandle" ∧ yX6_sealByReplay.cls ≠ "java/lang/invoke/VarHandle" ∧ (parseMethodDescriptor yX6_sealByReplay.desc).map (fun d => d.parameters.length) = some 1 := ⟨rfl, qd_X6_sealByReplay⟩
theorem qd_X6_signAt : yX6_signAt.cls ≠ "java/lang/invoke/MethodHandle" ∧ yX6_signAt.cls ≠ "java/lang/invoke/VarHandle" ∧ (parseMethodDescriptor yX6_signAt.desc).map (fun d => d.parameters.length) = some 1 := by decide +kernel
theorem qv_X6_signAt : yX6_signAt.cls = RX6 ∧ yX6_signAt.cls ≠ "java/lang/invoke/MethodHandle" ∧ yX6_signAt.cls ≠ "java/lang/invoke/VarHandle" ∧ (parseMethodDescriptor yX6_signAt.desc).map (fun d => d.parameters.length) = some 1 := ⟨rfl, qd_X6_signAt⟩
theorem qd_X6_standIn : yX6_standIn.cls ≠ "java/lang/invoke/MethodHandle" ∧ yX6_standIn.cls ≠ "java/lang/invoke/VarHandle" ∧ (parseMethodDescriptor yX6_standIn.desc).map (fun d => d.parameters.length) = some 1 := by decide +kernel
theorem qv_X6_standIn : yX6_standIn.cls = RX6 ∧ yX6_standIn.cls ≠ "java/lang/invoke/MethodHandle" ∧ yX6_standIn.cls ≠ "java/lang/invoke/VarHandle" ∧ (parseMethodDescriptor yX6_standIn.desc).map (fun d => d.parameters.length) = some 1 := ⟨rfl, qd_X6_standIn⟩
theorem qd_X6_stateOf : yX6_stateOf.cls ≠ "java/lang/invoke/MethodHandle" ∧ yX6_stateOf.cls ≠ "java/lang/invoke/VarHandle" ∧ (parseMethodDescriptor yX6_stateOf.desc).map (fun d => d.parameters.length) = some 1 := by decide +kernel
theorem qv_X6_stateOf : yX6_stateOf.cls = RX6 ∧ yX6_stateOf.cls ≠ "java/lang/invoke/MethodHandle" ∧ yX6_stateOf.cls ≠ "java/lang/invoke/VarHandle" ∧ (parseMethodDescriptor yX6_stateOf.desc).map (fun d => d.parameters.length) = some 1 := ⟨rfl, qd_X6_stateOf⟩
theorem qd_X6_trace : yX6_trace.cls ≠ "java/lang/invoke/MethodHandle" ∧ yX6_trace.cls ≠ "java/lang/invoke/VarHandle" ∧ (parseMethodDescriptor yX6_trace.desc).map (fun d => d.parameters.length) = some 0 := by decide +kernel
theorem qv_X6_trace : yX6_trace.cls = RX6 ∧ yX6_trace.cls ≠ "java/lang/invoke/MethodHandle" ∧ yX6_trace.cls ≠ "java/lang/invoke/VarHandle" ∧ (parseMethodDescriptor yX6_trace.desc).map (fun d => d.parameters.length) = some 0 := ⟨rfl, qd_X6_trace⟩
theorem qd_X6_undecided : yX6_undecided.cls ≠ "java/lang/invoke/MethodHandle" ∧ yX6_undecided.cls ≠ "java/lang/invoke/VarHandle" ∧ (parseMethodDescriptor yX6_undecided.desc).map (fun d => d.parameters.length) = some 0 := by decide +kernel
theorem qv_X6_undecided : yX6_undecided.cls = RX6 ∧ yX6_undecided.cls ≠ "java/lang/invoke/MethodHandle" ∧ yX6_undecided.cls ≠ "java/lang/invoke/VarHandle" ∧ (parseMethodDescriptor yX6_undecided.desc).map (fun d => d.parameters.length) = some 0 := ⟨rfl, qd_X6_undecided⟩
theorem qd_X6_verdict : yX6_verdict.cls ≠ "java/lang/invoke/MethodHandle" ∧ yX6_verdict.cls ≠ "java/lang/invoke/VarHandle" ∧ (parseMethodDescriptor yX6_verdict.desc).map (fun d => d.parameters.length) = some 1 := by decide +kernel
theorem qv_X6_verdict : yX6_verdict.cls = RX6 ∧ yX6_verdict.cls ≠ "java/lang/invoke/MethodHandle" ∧ yX6_verdict.cls ≠ "java/lang/invoke/VarHandle" ∧ (parseMethodDescriptor yX6_verdict.desc).map (fun d => d.parameters.length) = some 1 := ⟨rfl, qd_X6_verdict⟩
theorem tq_X6_214 : Bundle.fit "java/lang/IndexOutOfBoundsException" = true ∧ (∀ n ∈ (["java/lang/RuntimeException", "java/lang/Exception"] : List String), Bundle.fit n = true) ∧ (∀ w ∈ (vx_atS RX6 214 "java/lang/IndexOutOfBoundsException" ["java/lang/RuntimeException", "java/lang/Exception"]).filter (fun w => !goodWord w), w ∈ (Cond.castable "java/lang/IndexOutOfBoundsException" "java/lang/IndexOutOfBoundsException" :: zDecl.map (fun q => Cond.declares q) : List Cond)) ∧ (∀ w ∈ Cond.classLink RX6 210 "java/lang/IndexOutOfBoundsException" :: Cond.initialized "java/lang/IndexOutOfBoundsException" :: vx_atS RX6 214 "java/lang/IndexOutOfBoundsException" ["java/lang/RuntimeException", "java/lang/Exception"], vx_ot w = true) := by decide +kernel
theorem bI_nar {P : Prop} [Decidable P] : narrow .boolean (.int (bI P)) = .int (bI P) := by unfold bI; split <;> rfl
theorem lenI_ix {σ : ZS} {q r : Nat} (h : ¬ lenI σ q r = -1) : ∃ k, k ≤ 8 ∧ lenI σ q r = nI k := by
  by_cases h1 : hasAct σ (nI r) (nI q) (-1)
  · exact ⟨0, by omega, lenI_0 h1⟩
  · cases hf : (List.range 8).find? (fun k => decide (lenP σ q r k)) with
    | none => exact absurd (by rw [lenI, if_neg h1, hf]) h
    | some k => exact ⟨k + 1, by have := (List.find?_range_eq_some.mp hf).2.1; have := List.mem_range.mp this; omega, by rw [lenI, if_neg h1, hf]⟩
set_option maxHeartbeats 4000000 in
set_option maxRecDepth 100000 in
theorem k_X6_standIn (l : Launch) (hfl : l.stackTraces = false) (D : va_G) (ad : Nat → Nat) (T : Nat → ClassId) (σ : ZS) (hI : zI σ) (x : Int32) : zMX l yX6_standIn wsX6_standIn ({ frames := 7, cells := 1, slots := 6, locals := 111 }) D (zT T) [.ref (ad 0), .int x] (wC ad T σ) 1 6 (qI D (zT T) (fun v w => ∃ s, sp_standIn σ x = .inr (v, s) ∧ w = wC ad T s)) (xE D (zT T) (fun E w => sp_standIn σ x = .inl E ∧ w = wC ad T σ)) := by
  have hB0 := hI.bd
  obtain ⟨b0, b1, b2, b3, b4, b5⟩ := hI.bd
  refine zg_ofx (cc := cX6_standIn) (maxL := 2) (ret := (some .int)) (by decide) rfl (Nat.le_of_ble_eq_true rfl) (fun p e s m below meth c A hno hr X => ?_)
  have X : zC p s m _ meth c cX6_standIn 2 wsX6_standIn RX6 D (zT T) A := X
  have f6 : ∀ w ∈ u_ws RX6 TX6 9, w ∈ wsX6_standIn := by decide +kernel
  have l10 : Cond.fieldLink RX6 10 "Recertify" "people" "LRecertify$People;" ∈ wsX6_standIn := by decide +kernel
  refine zg_aload_n X dX6_standIn_0 rfl ?_
  refine zg_iload_n X dX6_standIn_1 rfl ?_
  refine zg_xcallVv X hno (k_X6_requirePerson l hfl D ad T _ hB0 _) zFr.rf gX6_standIn_X6_requirePerson rfl rfl rfl qv_X6_requirePerson rfl ⟨Nat.le_of_ble_eq_true rfl, Nat.le_of_ble_eq_true rfl⟩ (q0 := 0) (ci := 8) rfl rfl rfl (Nat.le_of_ble_eq_true rfl) ⟨Nat.le_of_ble_eq_true rfl, Nat.le_of_ble_eq_true rfl⟩ ⟨Nat.le_of_ble_eq_true rfl, Nat.le_of_ble_eq_true rfl⟩ dX6_standIn_2 (fun E w1 h => ⟨by rw [h.1.1, sp_standIn, if_neg h.1.2], h.2⟩) (fun w1 hz9 => ?_)
  obtain ⟨⟨j0, h0, e0⟩, rfl⟩ := hz9
  subst e0
  have k0 : j0 < 2 ^ 31 := by omega
  have p0 : pIn (nI j0) (σ.1 0) := pIn_nI (by omega) h0
  refine zg_aload_n X dX6_standIn_5 rfl ?_
  refine rg_R_people X f6 l10 dX6_standIn_6 ?_
  refine zg_iload_n X dX6_standIn_9 rfl ?_
  refine zg_callVi X (k_X4_firstPresent l D ad T _ hB0 _) zFr.rf gX6_standIn_X4_firstPresent rfl rfl rfl qv_X4_firstPresent rfl ⟨Nat.le_of_ble_eq_true rfl, Nat.le_of_ble_eq_true rfl⟩ (q0 := 1) (ci := 6) rfl rfl rfl (Nat.le_of_ble_eq_true rfl) ⟨Nat.le_of_ble_eq_true rfl, Nat.le_of_ble_eq_true rfl⟩ dX6_standIn_10 (fun r w1 hz9 => ?_)
  obtain ⟨rfl, rfl⟩ := hz9
  exact zg_x (zg_iret X hr dX6_standIn_13 (Nat.le_of_ble_eq_true rfl) (Nat.le_of_ble_eq_true rfl) (⟨σ, by simp only [sp_standIn, if_pos p0, ix_nI k0], rfl⟩))

set_option maxHeartbeats 4000000 in
set_option maxRecDepth 100000 in
theorem k_X6_isMember (l : Launch) (hfl : l.stackTraces = false) (D : va_G) (ad : Nat → Nat) (T : Nat → ClassId) (σ : ZS) (hI : zI σ) (x y : Int32) : zMX l yX6_isMember wsX6_isMember ({ frames := 7, cells := 2, slots := 12, locals := 111 }) D (zT T) [.ref (ad 0), .int x, .int y] (wC ad T σ) 2 12 (qI D (zT T) (fun v w => ∃ s, sp_isMember σ x y = .inr (v, s) ∧ w = wC ad T s)) (xE D (zT T) (fun E w => sp_isMember σ x y = .inl E ∧ w = wC ad T σ)) := by
  have hB0 := hI.bd
  obtain ⟨b0, b1, b2, b3, b4, b5⟩ := hI.bd
  refine zg_ofx (cc := cX6_isMember) (maxL := 3) (ret := (some .boolean)) (by decide) rfl (Nat.le_of_ble_eq_true rfl) (fun p e s m below meth c A hno hr X => ?_)
  have X : zC p s m _ meth c cX6_isMember 3 wsX6_isMember RX6 D (zT T) A := X
  have f6 : ∀ w ∈ u_ws RX6 TX6 9, w ∈ wsX6_isMember := by decide +kernel
  have f3 : ∀ w ∈ u_ws RX3 TX3 5, w ∈ wsX6_isMember := by decide +kernel
  have l139 : Cond.fieldLink RX6 139 "Recertify$Groups" "all" "[I" ∈ wsX6_isMember := by decide +kernel
  have l19 : Cond.fieldLink RX6 19 "Recertify" "groups" "LRecertify$Groups;" ∈ wsX6_isMember := by decide +kernel
  refine zg_aload_n X dX6_isMember_0 rfl ?_
  refine zg_iload_n X dX6_isMember_1 rfl ?_
  refine zg_xcallVv X hno (k_X6_requireGroup l hfl D ad T _ hB0 _) zFr.rf gX6_isMember_X6_requireGroup rfl rfl rfl qv_X6_requireGroup rfl ⟨Nat.le_of_ble_eq_true rfl, Nat.le_of_ble_eq_true rfl⟩ (q0 := 0) (ci := 8) rfl rfl rfl (Nat.le_of_ble_eq_true rfl) ⟨Nat.le_of_ble_eq_true rfl, Nat.le_of_ble_eq_true rfl⟩ ⟨Nat.le_of_ble_eq_true rfl, Nat.le_of_ble_eq_true rfl⟩ dX6_isMember_2 (fun E w1 h => ⟨by rw [h.1.1, sp_isMember, if_neg (fun q => h.1.2 q.1)], h.2⟩) (fun w1 hz9 => ?_)
  obtain ⟨⟨j0, h0, e0⟩, rfl⟩ := hz9
  subst e0
  have k0 : j0 < 2 ^ 31 := by omega
  have p0 : pIn (nI j0) (σ.1 1) := pIn_nI (by omega) h0
  refine zg_aload_n X dX6_isMember_5 rfl ?_
  refine zg_iload_n X dX6_isMember_6 rfl ?_
  refine zg_xcallVv X hno (k_X6_requirePerson l hfl D ad T _ hB0 _) zFr.rf gX6_isMember_X6_requirePerson rfl rfl rfl qv_X6_requirePerson rfl ⟨Nat.le_of_ble_eq_true rfl, Nat.le_of_ble_eq_true rfl⟩ (q0 := 0) (ci := 8) rfl rfl rfl (Nat.le_of_ble_eq_true rfl) ⟨Nat.le_of_ble_eq_true rfl, Nat.le_of_ble_eq_true rfl⟩ ⟨Nat.le_of_ble_eq_true rfl, Nat.le_of_ble_eq_true rfl⟩ dX6_isMember_7 (fun E w1 h => ⟨by rw [h.1.1, sp_isMember, if_neg (fun q => h.1.2 q.2)], h.2⟩) (fun w1 hz9 => ?_)
  obtain ⟨⟨j1, h1, e1⟩, rfl⟩ := hz9
  subst e1
  have k1 : j1 < 2 ^ 31 := by omega
  have p1 : pIn (nI j1) (σ.1 0) := pIn_nI (by omega) h1
  refine zg_aload_n X dX6_isMember_10 rfl ?_
  refine rg_R_groups X f6 l19 dX6_isMember_11 ?_
  refine rg_Groups_all X f3 l139 dX6_isMember_14 ?_
  refine zg_iload_n X dX6_isMember_17 rfl ?_
  refine rlC_all X (by omega) dX6_isMember_18 ?_
  refine zg_iload_n X dX6_isMember_19 rfl ?_
  refine zg_callSi X (k_X6_contains l D ad T _ _ j1) zFr.rf gX6_isMember_X6_contains rfl rfl rfl qd_X6_contains rfl ⟨Nat.le_of_ble_eq_true rfl, Nat.le_of_ble_eq_true rfl⟩ rfl (Nat.le_of_ble_eq_true rfl) ⟨Nat.le_of_ble_eq_true rfl, Nat.le_of_ble_eq_true rfl⟩ dX6_isMember_20 (fun r w1 hz9 => ?_)
  obtain ⟨rfl, rfl⟩ := hz9
  exact zg_x (zg_nret X hr (bI_nar) dX6_isMember_23 (Nat.le_of_ble_eq_true rfl) (Nat.le_of_ble_eq_true rfl) (⟨σ, by simp only [sp_isMember, if_pos (And.intro p0 p1), ix_nI k0, ix_nI k1], rfl⟩))

set_option maxHeartbeats 4000000 in
set_option maxRecDepth 100000 in
theorem k_X6_members (l : Launch) (hfl : l.stackTraces = false) (D : va_G) (ad : Nat → Nat) (T : Nat → ClassId) (σ : ZS) (hI : zI σ) (x : Int32) : zMX l yX6_members wsX6_members ({ frames := 7, cells := 1, slots := 6, locals := 111 }) D (zT T) [.ref (ad 0), .int x] (wC ad T σ) 1 6 (qI D (zT T) (fun v w => ∃ s, sp_members σ x = .inr (v, s) ∧ w = wC ad T s)) (xE D (zT T) (fun E w => sp_members σ x = .inl E ∧ w = wC ad T σ)) := by
  have hB0 := hI.bd
  obtain ⟨b0, b1, b2, b3, b4, b5⟩ := hI.bd
  refine zg_ofx (cc := cX6_members) (maxL := 2) (ret := (some .int)) (by decide) rfl (Nat.le_of_ble_eq_true rfl) (fun p e s m below meth c A hno hr X => ?_)
  have X : zC p s m _ meth c cX6_members 2 wsX6_members RX6 D (zT T) A := X
  have f6 : ∀ w ∈ u_ws RX6 TX6 9, w ∈ wsX6_members := by decide +kernel
  have f3 : ∀ w ∈ u_ws RX3 TX3 5, w ∈ wsX6_members := by decide +kernel
  have l139 : Cond.fieldLink RX6 139 "Recertify$Groups" "all" "[I" ∈ wsX6_members := by decide +kernel
  have l19 : Cond.fieldLink RX6 19 "Recertify" "groups" "LRecertify$Groups;" ∈ wsX6_members := by decide +kernel
  refine zg_aload_n X dX6_members_0 rfl ?_
  refine zg_iload_n X dX6_members_1 rfl ?_
  refine zg_xcallVv X hno (k_X6_requireGroup l hfl D ad T _ hB0 _) zFr.rf gX6_members_X6_requireGroup rfl rfl rfl qv_X6_requireGroup rfl ⟨Nat.le_of_ble_eq_true rfl, Nat.le_of_ble_eq_true rfl⟩ (q0 := 0) (ci := 8) rfl rfl rfl (Nat.le_of_ble_eq_true rfl) ⟨Nat.le_of_ble_eq_true rfl, Nat.le_of_ble_eq_true rfl⟩ ⟨Nat.le_of_ble_eq_true rfl, Nat.le_of_ble_eq_true rfl⟩ dX6_members_2 (fun E w1 h => ⟨by rw [h.1.1, sp_members, if_neg h.1.2], h.2⟩) (fun w1 hz9 => ?_)
  obtain ⟨⟨j0, h0, e0⟩, rfl⟩ := hz9
  subst e0
  have k0 : j0 < 2 ^ 31 := by omega
  have p0 : pIn (nI j0) (σ.1 1) := pIn_nI (by omega) h0
  refine zg_aload_n X dX6_members_5 rfl ?_
  refine rg_R_groups X f6 l19 dX6_members_6 ?_
  refine rg_Groups_all X f3 l139 dX6_members_9 ?_
  refine zg_iload_n X dX6_members_12 rfl ?_
  refine rlC_all X (by omega) dX6_members_13 ?_
  refine zg_callSi X (k_J6_bitCount_0f7a4 l D ad T _ _) zFr.rf gX6_members_J6_bitCount_0f7a4 rfl rfl rfl qd_J6_bitCount_0f7a4 rfl ⟨Nat.le_of_ble_eq_true rfl, Nat.le_of_ble_eq_true rfl⟩ rfl (Nat.le_of_ble_eq_true rfl) ⟨Nat.le_of_ble_eq_true rfl, Nat.le_of_ble_eq_true rfl⟩ dX6_members_14 (fun r w1 hz9 => ?_)
  obtain ⟨rfl, rfl⟩ := hz9
  exact zg_x (zg_iret X hr dX6_members_17 (Nat.le_of_ble_eq_true rfl) (Nat.le_of_ble_eq_true rfl) (⟨σ, by simp only [sp_members, if_pos p0, ix_nI k0], rfl⟩))

set_option maxHeartbeats 4000000 in
set_option maxRecDepth 100000 in
theorem k_X6_holds (l : Launch) (hfl : l.stackTraces = false) (D : va_G) (ad : Nat → Nat) (T : Nat → ClassId) (σ : ZS) (hI : zI σ) (x y : Int32) : zMX l yX6_holds wsX6_holds ({ frames := 7, cells := 2, slots := 12, locals := 111 }) D (zT T) [.ref (ad 0), .int x, .int y] (wC ad T σ) 2 12 (qI D (zT T) (fun v w => ∃ s, sp_holds σ x y = .inr (v, s) ∧ w = wC ad T s)) (xE D (zT T) (fun E w => sp_holds σ x y = .inl E ∧ w = wC ad T σ)) := by
  have hB0 := hI.bd
  obtain ⟨b0, b1, b2, b3, b4, b5⟩ := hI.bd
  refine zg_ofx (cc := cX6_holds) (maxL := 3) (ret := (some .boolean)) (by decide) rfl (Nat.le_of_ble_eq_true rfl) (fun p e s m below meth c A hno hr X => ?_)
  have X : zC p s m _ meth c cX6_holds 3 wsX6_holds RX6 D (zT T) A := X
  refine zg_aload_n X dX6_holds_0 rfl ?_
  refine zg_iload_n X dX6_holds_1 rfl ?_
  refine zg_xcallVv X hno (k_X6_requirePerson l hfl D ad T _ hB0 _) zFr.rf gX6_holds_X6_requirePerson rfl rfl rfl qv_X6_requirePerson rfl ⟨Nat.le_of_ble_eq_true rfl, Nat.le_of_ble_eq_true rfl⟩ (q0 := 0) (ci := 8) rfl rfl rfl (Nat.le_of_ble_eq_true rfl) ⟨Nat.le_of_ble_eq_true rfl, Nat.le_of_ble_eq_true rfl⟩ ⟨Nat.le_of_ble_eq_true rfl, Nat.le_of_ble_eq_true rfl⟩ dX6_holds_2 (fun E w1 h => ⟨by rw [h.1.1, sp_holds, if_neg (fun q => h.1.2 q.1)], h.2⟩) (fun w1 hz9 => ?_)
  obtain ⟨⟨j0, h0, e0⟩, rfl⟩ := hz9
  subst e0
  have k0 : j0 < 2 ^ 31 := by omega
  have p0 : pIn (nI j0) (σ.1 0) := pIn_nI (by omega) h0
  refine zg_aload_n X dX6_holds_5 rfl ?_
  refine zg_iload_n X dX6_holds_6 rfl ?_
  refine zg_xcallVv X hno (k_X6_requireRight l hfl D ad T _ hB0 _) zFr.rf gX6_holds_X6_requireRight rfl rfl rfl qv_X6_requireRight rfl ⟨Nat.le_of_ble_eq_true rfl, Nat.le_of_ble_eq_true rfl⟩ (q0 := 0) (ci := 8) rfl rfl rfl (Nat.le_of_ble_eq_true rfl) ⟨Nat.le_of_ble_eq_true rfl, Nat.le_of_ble_eq_true rfl⟩ ⟨Nat.le_of_ble_eq_true rfl, Nat.le_of_ble_eq_true rfl⟩ dX6_holds_7 (fun E w1 h => ⟨by rw [h.1.1, sp_holds, if_neg (fun q => h.1.2 q.2)], h.2⟩) (fun w1 hz9 => ?_)
  obtain ⟨⟨j1, h1, e1⟩, rfl⟩ := hz9
  subst e1
  have k1 : j1 < 2 ^ 31 := by omega
  have p1 : pIn (nI j1) (σ.1 2) := pIn_nI (by omega) h1
  refine zg_aload_n X dX6_holds_10 rfl ?_
  refine zg_iload_n X dX6_holds_11 rfl ?_
  refine zg_iconst X (v := (-1)) dX6_holds_12 (by decide) ?_
  refine zg_callVi X (k_X6_findHolders l D ad T _ hI j1 (by omega) (-1)) zFr.rf gX6_holds_X6_findHolders rfl rfl rfl qv_X6_findHolders rfl ⟨Nat.le_of_ble_eq_true rfl, Nat.le_of_ble_eq_true rfl⟩ (q0 := 0) (ci := 8) rfl rfl rfl (Nat.le_of_ble_eq_true rfl) ⟨Nat.le_of_ble_eq_true rfl, Nat.le_of_ble_eq_true rfl⟩ dX6_holds_13 (fun r w1 hz9 => ?_)
  obtain ⟨rfl, rfl⟩ := hz9
  refine zg_iload_n X dX6_holds_16 rfl ?_
  refine zg_callSi X (k_X6_contains l D ad T _ _ j0) zFr.rf gX6_holds_X6_contains rfl rfl rfl qd_X6_contains rfl ⟨Nat.le_of_ble_eq_true rfl, Nat.le_of_ble_eq_true rfl⟩ rfl (Nat.le_of_ble_eq_true rfl) ⟨Nat.le_of_ble_eq_true rfl, Nat.le_of_ble_eq_true rfl⟩ dX6_holds_17 (fun r w1 hz9 => ?_)
  obtain ⟨rfl, rfl⟩ := hz9
  exact zg_x (zg_nret X hr (bI_nar) dX6_holds_20 (Nat.le_of_ble_eq_true rfl) (Nat.le_of_ble_eq_true rfl) (⟨σ, by simp only [sp_holds, if_pos (And.intro p0 p1), ix_nI k0, ix_nI k1], rfl⟩))

set_option maxHeartbeats 4000000 in
set_option maxRecDepth 100000 in
theorem k_X6_holdsByPaths (l : Launch) (hfl : l.stackTraces = false) (D : va_G) (ad : Nat → Nat) (T : Nat → ClassId) (σ : ZS) (hI : zI σ) (x y : Int32) : zMX l yX6_holdsByPaths wsX6_holdsByPaths ({ frames := 13, cells := 2, slots := 12, locals := 372 }) D (zT T) [.ref (ad 0), .int x, .int y] (wC ad T σ) 2 12 (qI D (zT T) (fun v w => ∃ s, sp_holdsByPaths σ x y = .inr (v, s) ∧ w = wC ad T s)) (xE D (zT T) (fun E w => sp_holdsByPaths σ x y = .inl E ∧ w = wC ad T σ)) := by
  have hB0 := hI.bd
  obtain ⟨b0, b1, b2, b3, b4, b5⟩ := hI.bd
  refine zg_ofx (cc := cX6_holdsByPaths) (maxL := 3) (ret := (some .boolean)) (by decide) rfl (Nat.le_of_ble_eq_true rfl) (fun p e s m below meth c A hno hr X => ?_)
  have X : zC p s m _ meth c cX6_holdsByPaths 3 wsX6_holdsByPaths RX6 D (zT T) A := X
  have f6 : ∀ w ∈ u_ws RX6 TX6 9, w ∈ wsX6_holdsByPaths := by decide +kernel
  have f5 : ∀ w ∈ u_ws RX5 TX5 5, w ∈ wsX6_holdsByPaths := by decide +kernel
  have l162 : Cond.fieldLink RX6 162 "Recertify$Rights" "denied" "[I" ∈ wsX6_holdsByPaths := by decide +kernel
  have l26 : Cond.fieldLink RX6 26 "Recertify" "rights" "LRecertify$Rights;" ∈ wsX6_holdsByPaths := by decide +kernel
  refine zg_aload_n X dX6_holdsByPaths_0 rfl ?_
  refine zg_iload_n X dX6_holdsByPaths_1 rfl ?_
  refine zg_xcallVv X hno (k_X6_requirePerson l hfl D ad T _ hB0 _) zFr.rf gX6_holdsByPaths_X6_requirePerson rfl rfl rfl qv_X6_requirePerson rfl ⟨Nat.le_of_ble_eq_true rfl, Nat.le_of_ble_eq_true rfl⟩ (q0 := 0) (ci := 8) rfl rfl rfl (Nat.le_of_ble_eq_true rfl) ⟨Nat.le_of_ble_eq_true rfl, Nat.le_of_ble_eq_true rfl⟩ ⟨Nat.le_of_ble_eq_true rfl, Nat.le_of_ble_eq_true rfl⟩ dX6_holdsByPaths_2 (fun E w1 h => ⟨by rw [h.1.1, sp_holdsByPaths, if_neg (fun q => h.1.2 q.1)], h.2⟩) (fun w1 hz9 => ?_)
  obtain ⟨⟨j0, h0, e0⟩, rfl⟩ := hz9
  subst e0
  have k0 : j0 < 2 ^ 31 := by omega
  have p0 : pIn (nI j0) (σ.1 0) := pIn_nI (by omega) h0
  refine zg_aload_n X dX6_holdsByPaths_5 rfl ?_
  refine zg_iload_n X dX6_holdsByPaths_6 rfl ?_
  refine zg_xcallVv X hno (k_X6_requireRight l hfl D ad T _ hB0 _) zFr.rf gX6_holdsByPaths_X6_requireRight rfl rfl rfl qv_X6_requireRight rfl ⟨Nat.le_of_ble_eq_true rfl, Nat.le_of_ble_eq_true rfl⟩ (q0 := 0) (ci := 8) rfl rfl rfl (Nat.le_of_ble_eq_true rfl) ⟨Nat.le_of_ble_eq_true rfl, Nat.le_of_ble_eq_true rfl⟩ ⟨Nat.le_of_ble_eq_true rfl, Nat.le_of_ble_eq_true rfl⟩ dX6_holdsByPaths_7 (fun E w1 h => ⟨by rw [h.1.1, sp_holdsByPaths, if_neg (fun q => h.1.2 q.2)], h.2⟩) (fun w1 hz9 => ?_)
  obtain ⟨⟨j1, h1, e1⟩, rfl⟩ := hz9
  subst e1
  have k1 : j1 < 2 ^ 31 := by omega
  have p1 : pIn (nI j1) (σ.1 2) := pIn_nI (by omega) h1
  refine zg_aload_n X dX6_holdsByPaths_10 rfl ?_
  refine rg_R_rights X f6 l26 dX6_holdsByPaths_11 ?_
  refine rg_Rights_denied X f5 l162 dX6_holdsByPaths_14 ?_
  refine zg_iload_n X dX6_holdsByPaths_17 rfl ?_
  refine rlC_denied X (by omega) dX6_holdsByPaths_18 ?_
  refine zg_iload_n X dX6_holdsByPaths_19 rfl ?_
  refine zg_callSi X (k_X6_contains l D ad T _ _ j0) zFr.rf gX6_holdsByPaths_X6_contains rfl rfl rfl qd_X6_contains rfl ⟨Nat.le_of_ble_eq_true rfl, Nat.le_of_ble_eq_true rfl⟩ rfl (Nat.le_of_ble_eq_true rfl) ⟨Nat.le_of_ble_eq_true rfl, Nat.le_of_ble_eq_true rfl⟩ dX6_holdsByPaths_20 (fun r w1 hz9 => ?_)
  obtain ⟨rfl, rfl⟩ := hz9
  refine zg_if_neb X dX6_holdsByPaths_23 (tgt := 39) (by decide) (fun c_23 => ?_) (fun c_23 => ?_)
  · skip
    refine zg_iconst X (v := 0) dX6_holdsByPaths_39 (by decide) ?_
    exact zg_x (zg_nret X hr (rfl) dX6_holdsByPaths_40 (Nat.le_of_ble_eq_true rfl) (Nat.le_of_ble_eq_true rfl) (⟨σ, by simp only [sp_holdsByPaths, if_pos (And.intro p0 p1), ix_nI k0, ix_nI k1, bI_f (show ¬ (¬ hB (σ.2.2 8 j1) j0 ∧ 0 < wayI σ j0 j1) from fun q => q.1 c_23)], rfl⟩))
  · skip
    refine zg_aload_n X dX6_holdsByPaths_26 rfl ?_
    refine zg_iload_n X dX6_holdsByPaths_27 rfl ?_
    refine zg_iload_n X dX6_holdsByPaths_28 rfl ?_
    refine zg_callVi X (k_X6_countWays l D ad T _ hI j0 j1) zFr.rf gX6_holdsByPaths_X6_countWays rfl rfl rfl qv_X6_countWays rfl ⟨Nat.le_of_ble_eq_true rfl, Nat.le_of_ble_eq_true rfl⟩ (q0 := 0) (ci := 8) rfl rfl rfl (Nat.le_of_ble_eq_true rfl) ⟨Nat.le_of_ble_eq_true rfl, Nat.le_of_ble_eq_true rfl⟩ dX6_holdsByPaths_29 (fun r w1 hz9 => ?_)
    obtain ⟨rfl, rfl⟩ := hz9
    refine zg_if_le X dX6_holdsByPaths_32 (tgt := 39) (by decide) (fun c_32 => ?_) (fun c_32 => ?_)
    · skip
      refine zg_iconst X (v := 0) dX6_holdsByPaths_39 (by decide) ?_
      exact zg_x (zg_nret X hr (rfl) dX6_holdsByPaths_40 (Nat.le_of_ble_eq_true rfl) (Nat.le_of_ble_eq_true rfl) (⟨σ, by simp only [sp_holdsByPaths, if_pos (And.intro p0 p1), ix_nI k0, ix_nI k1, bI_f (show ¬ (¬ hB (σ.2.2 8 j1) j0 ∧ 0 < wayI σ j0 j1) from fun q => zi_lt.mp q.2 c_32)], rfl⟩))
    · skip
      refine zg_iconst X (v := 1) dX6_holdsByPaths_35 (by decide) ?_
      refine zg_goto X dX6_holdsByPaths_36 (tgt := 40) (by decide) ?_
      exact zg_x (zg_nret X hr (rfl) dX6_holdsByPaths_40 (Nat.le_of_ble_eq_true rfl) (Nat.le_of_ble_eq_true rfl) (⟨σ, by simp only [sp_holdsByPaths, if_pos (And.intro p0 p1), ix_nI k0, ix_nI k1, bI_t (show (¬ hB (σ.2.2 8 j1) j0 ∧ 0 < wayI σ j0 j1) from ⟨c_23, zi_lt.mpr c_32⟩)], rfl⟩))

set_option maxHeartbeats 4000000 in
set_option maxRecDepth 100000 in
theorem k_X6_rightsOf (l : Launch) (hfl : l.stackTraces = false) (D : va_G) (ad : Nat → Nat) (T : Nat → ClassId) (σ : ZS) (hI : zI σ) (x : Int32) : zMX l yX6_rightsOf wsX6_rightsOf ({ frames := 7, cells := 1, slots := 6, locals := 111 }) D (zT T) [.ref (ad 0), .int x] (wC ad T σ) 1 6 (qI D (zT T) (fun v w => ∃ s, sp_rightsOf σ x = .inr (v, s) ∧ w = wC ad T s)) (xE D (zT T) (fun E w => sp_rightsOf σ x = .inl E ∧ w = wC ad T σ)) := by
  have hB0 := hI.bd
  obtain ⟨b0, b1, b2, b3, b4, b5⟩ := hI.bd
  refine zg_ofx (cc := cX6_rightsOf) (maxL := 2) (ret := (some .int)) (by decide) rfl (Nat.le_of_ble_eq_true rfl) (fun p e s m below meth c A hno hr X => ?_)
  have X : zC p s m _ meth c cX6_rightsOf 2 wsX6_rightsOf RX6 D (zT T) A := X
  refine zg_aload_n X dX6_rightsOf_0 rfl ?_
  refine zg_iload_n X dX6_rightsOf_1 rfl ?_
  refine zg_xcallVv X hno (k_X6_requirePerson l hfl D ad T _ hB0 _) zFr.rf gX6_rightsOf_X6_requirePerson rfl rfl rfl qv_X6_requirePerson rfl ⟨Nat.le_of_ble_eq_true rfl, Nat.le_of_ble_eq_true rfl⟩ (q0 := 0) (ci := 8) rfl rfl rfl (Nat.le_of_ble_eq_true rfl) ⟨Nat.le_of_ble_eq_true rfl, Nat.le_of_ble_eq_true rfl⟩ ⟨Nat.le_of_ble_eq_true rfl, Nat.le_of_ble_eq_true rfl⟩ dX6_rightsOf_2 (fun E w1 h => ⟨by rw [h.1.1, sp_rightsOf, if_neg h.1.2], h.2⟩) (fun w1 hz9 => ?_)
  obtain ⟨⟨j0, h0, e0⟩, rfl⟩ := hz9
  subst e0
  have k0 : j0 < 2 ^ 31 := by omega
  have p0 : pIn (nI j0) (σ.1 0) := pIn_nI (by omega) h0
  refine zg_aload_n X dX6_rightsOf_5 rfl ?_
  refine zg_iload_n X dX6_rightsOf_6 rfl ?_
  refine zg_callVi X (k_X6_findRights l D ad T _ hI j0) zFr.rf gX6_rightsOf_X6_findRights rfl rfl rfl qv_X6_findRights rfl ⟨Nat.le_of_ble_eq_true rfl, Nat.le_of_ble_eq_true rfl⟩ (q0 := 0) (ci := 8) rfl rfl rfl (Nat.le_of_ble_eq_true rfl) ⟨Nat.le_of_ble_eq_true rfl, Nat.le_of_ble_eq_true rfl⟩ dX6_rightsOf_7 (fun r w1 hz9 => ?_)
  obtain ⟨rfl, rfl⟩ := hz9
  refine zg_callSi X (k_J6_bitCount_0f7a4 l D ad T _ _) zFr.rf gX6_rightsOf_J6_bitCount_0f7a4 rfl rfl rfl qd_J6_bitCount_0f7a4 rfl ⟨Nat.le_of_ble_eq_true rfl, Nat.le_of_ble_eq_true rfl⟩ rfl (Nat.le_of_ble_eq_true rfl) ⟨Nat.le_of_ble_eq_true rfl, Nat.le_of_ble_eq_true rfl⟩ dX6_rightsOf_10 (fun r w1 hz9 => ?_)
  obtain ⟨rfl, rfl⟩ := hz9
  exact zg_x (zg_iret X hr dX6_rightsOf_13 (Nat.le_of_ble_eq_true rfl) (Nat.le_of_ble_eq_true rfl) (⟨σ, by simp only [sp_rightsOf, if_pos p0, ix_nI k0], rfl⟩))

set_option maxHeartbeats 4000000 in
set_option maxRecDepth 100000 in
theorem k_X6_holdersOf (l : Launch) (hfl : l.stackTraces = false) (D : va_G) (ad : Nat → Nat) (T : Nat → ClassId) (σ : ZS) (hI : zI σ) (x : Int32) : zMX l yX6_holdersOf wsX6_holdersOf ({ frames := 7, cells := 1, slots := 6, locals := 111 }) D (zT T) [.ref (ad 0), .int x] (wC ad T σ) 1 6 (qI D (zT T) (fun v w => ∃ s, sp_holdersOf σ x = .inr (v, s) ∧ w = wC ad T s)) (xE D (zT T) (fun E w => sp_holdersOf σ x = .inl E ∧ w = wC ad T σ)) := by
  have hB0 := hI.bd
  obtain ⟨b0, b1, b2, b3, b4, b5⟩ := hI.bd
  refine zg_ofx (cc := cX6_holdersOf) (maxL := 2) (ret := (some .int)) (by decide) rfl (Nat.le_of_ble_eq_true rfl) (fun p e s m below meth c A hno hr X => ?_)
  have X : zC p s m _ meth c cX6_holdersOf 2 wsX6_holdersOf RX6 D (zT T) A := X
  refine zg_aload_n X dX6_holdersOf_0 rfl ?_
  refine zg_iload_n X dX6_holdersOf_1 rfl ?_
  refine zg_xcallVv X hno (k_X6_requireRight l hfl D ad T _ hB0 _) zFr.rf gX6_holdersOf_X6_requireRight rfl rfl rfl qv_X6_requireRight rfl ⟨Nat.le_of_ble_eq_true rfl, Nat.le_of_ble_eq_true rfl⟩ (q0 := 0) (ci := 8) rfl rfl rfl (Nat.le_of_ble_eq_true rfl) ⟨Nat.le_of_ble_eq_true rfl, Nat.le_of_ble_eq_true rfl⟩ ⟨Nat.le_of_ble_eq_true rfl, Nat.le_of_ble_eq_true rfl⟩ dX6_holdersOf_2 (fun E w1 h => ⟨by rw [h.1.1, sp_holdersOf, if_neg h.1.2], h.2⟩) (fun w1 hz9 => ?_)
  obtain ⟨⟨j0, h0, e0⟩, rfl⟩ := hz9
  subst e0
  have k0 : j0 < 2 ^ 31 := by omega
  have p0 : pIn (nI j0) (σ.1 2) := pIn_nI (by omega) h0
  refine zg_aload_n X dX6_holdersOf_5 rfl ?_
  refine zg_iload_n X dX6_holdersOf_6 rfl ?_
  refine zg_iconst X (v := (-1)) dX6_holdersOf_7 (by decide) ?_
  refine zg_callVi X (k_X6_findHolders l D ad T _ hI j0 (by omega) (-1)) zFr.rf gX6_holdersOf_X6_findHolders rfl rfl rfl qv_X6_findHolders rfl ⟨Nat.le_of_ble_eq_true rfl, Nat.le_of_ble_eq_true rfl⟩ (q0 := 0) (ci := 8) rfl rfl rfl (Nat.le_of_ble_eq_true rfl) ⟨Nat.le_of_ble_eq_true rfl, Nat.le_of_ble_eq_true rfl⟩ dX6_holdersOf_8 (fun r w1 hz9 => ?_)
  obtain ⟨rfl, rfl⟩ := hz9
  refine zg_callSi X (k_J6_bitCount_0f7a4 l D ad T _ _) zFr.rf gX6_holdersOf_J6_bitCount_0f7a4 rfl rfl rfl qd_J6_bitCount_0f7a4 rfl ⟨Nat.le_of_ble_eq_true rfl, Nat.le_of_ble_eq_true rfl⟩ rfl (Nat.le_of_ble_eq_true rfl) ⟨Nat.le_of_ble_eq_true rfl, Nat.le_of_ble_eq_true rfl⟩ dX6_holdersOf_11 (fun r w1 hz9 => ?_)
  obtain ⟨rfl, rfl⟩ := hz9
  exact zg_x (zg_iret X hr dX6_holdersOf_14 (Nat.le_of_ble_eq_true rfl) (Nat.le_of_ble_eq_true rfl) (⟨σ, by simp only [sp_holdersOf, if_pos p0, ix_nI k0], rfl⟩))

set_option maxHeartbeats 4000000 in
set_option maxRecDepth 100000 in
theorem k_X6_rightBits (l : Launch) (hfl : l.stackTraces = false) (D : va_G) (ad : Nat → Nat) (T : Nat → ClassId) (σ : ZS) (hI : zI σ) (x : Int32) : zMX l yX6_rightBits wsX6_rightBits ({ frames := 7, cells := 1, slots := 6, locals := 111 }) D (zT T) [.ref (ad 0), .int x] (wC ad T σ) 1 6 (qI D (zT T) (fun v w => ∃ s, sp_rightBits σ x = .inr (v, s) ∧ w = wC ad T s)) (xE D (zT T) (fun E w => sp_rightBits σ x = .inl E ∧ w = wC ad T σ)) := by
  have hB0 := hI.bd
  obtain ⟨b0, b1, b2, b3, b4, b5⟩ := hI.bd
  refine zg_ofx (cc := cX6_rightBits) (maxL := 2) (ret := (some .int)) (by decide) rfl (Nat.le_of_ble_eq_true rfl) (fun p e s m below meth c A hno hr X => ?_)
  have X : zC p s m _ meth c cX6_rightBits 2 wsX6_rightBits RX6 D (zT T) A := X
  refine zg_aload_n X dX6_rightBits_0 rfl ?_
  refine zg_iload_n X dX6_rightBits_1 rfl ?_
  refine zg_xcallVv X hno (k_X6_requirePerson l hfl D ad T _ hB0 _) zFr.rf gX6_rightBits_X6_requirePerson rfl rfl rfl qv_X6_requirePerson rfl ⟨Nat.le_of_ble_eq_true rfl, Nat.le_of_ble_eq_true rfl⟩ (q0 := 0) (ci := 8) rfl rfl rfl (Nat.le_of_ble_eq_true rfl) ⟨Nat.le_of_ble_eq_true rfl, Nat.le_of_ble_eq_true rfl⟩ ⟨Nat.le_of_ble_eq_true rfl, Nat.le_of_ble_eq_true rfl⟩ dX6_rightBits_2 (fun E w1 h => ⟨by rw [h.1.1, sp_rightBits, if_neg h.1.2], h.2⟩) (fun w1 hz9 => ?_)
  obtain ⟨⟨j0, h0, e0⟩, rfl⟩ := hz9
  subst e0
  have k0 : j0 < 2 ^ 31 := by omega
  have p0 : pIn (nI j0) (σ.1 0) := pIn_nI (by omega) h0
  refine zg_aload_n X dX6_rightBits_5 rfl ?_
  refine zg_iload_n X dX6_rightBits_6 rfl ?_
  refine zg_callVi X (k_X6_findRights l D ad T _ hI j0) zFr.rf gX6_rightBits_X6_findRights rfl rfl rfl qv_X6_findRights rfl ⟨Nat.le_of_ble_eq_true rfl, Nat.le_of_ble_eq_true rfl⟩ (q0 := 0) (ci := 8) rfl rfl rfl (Nat.le_of_ble_eq_true rfl) ⟨Nat.le_of_ble_eq_true rfl, Nat.le_of_ble_eq_true rfl⟩ dX6_rightBits_7 (fun r w1 hz9 => ?_)
  obtain ⟨rfl, rfl⟩ := hz9
  exact zg_x (zg_iret X hr dX6_rightBits_10 (Nat.le_of_ble_eq_true rfl) (Nat.le_of_ble_eq_true rfl) (⟨σ, by simp only [sp_rightBits, if_pos p0, ix_nI k0], rfl⟩))

set_option maxHeartbeats 4000000 in
set_option maxRecDepth 100000 in
theorem k_X6_apart (l : Launch) (hfl : l.stackTraces = false) (D : va_G) (ad : Nat → Nat) (T : Nat → ClassId) (σ : ZS) (hI : zI σ) (x y : Int32) : zMX l yX6_apart wsX6_apart ({ frames := 7, cells := 2, slots := 12, locals := 111 }) D (zT T) [.ref (ad 0), .int x, .int y] (wC ad T σ) 2 12 (qI D (zT T) (fun v w => ∃ s, sp_apart σ x y = .inr (v, s) ∧ w = wC ad T s)) (xE D (zT T) (fun E w => sp_apart σ x y = .inl E ∧ w = wC ad T σ)) := by
  have hB0 := hI.bd
  obtain ⟨b0, b1, b2, b3, b4, b5⟩ := hI.bd
  refine zg_ofx (cc := cX6_apart) (maxL := 3) (ret := (some .int)) (by decide) rfl (Nat.le_of_ble_eq_true rfl) (fun p e s m below meth c A hno hr X => ?_)
  have X : zC p s m _ meth c cX6_apart 3 wsX6_apart RX6 D (zT T) A := X
  refine zg_aload_n X dX6_apart_0 rfl ?_
  refine zg_iload_n X dX6_apart_1 rfl ?_
  refine zg_xcallVv X hno (k_X6_requirePerson l hfl D ad T _ hB0 _) zFr.rf gX6_apart_X6_requirePerson rfl rfl rfl qv_X6_requirePerson rfl ⟨Nat.le_of_ble_eq_true rfl, Nat.le_of_ble_eq_true rfl⟩ (q0 := 0) (ci := 8) rfl rfl rfl (Nat.le_of_ble_eq_true rfl) ⟨Nat.le_of_ble_eq_true rfl, Nat.le_of_ble_eq_true rfl⟩ ⟨Nat.le_of_ble_eq_true rfl, Nat.le_of_ble_eq_true rfl⟩ dX6_apart_2 (fun E w1 h => ⟨by rw [h.1.1, sp_apart, if_neg (fun q => h.1.2 q.1)], h.2⟩) (fun w1 hz9 => ?_)
  obtain ⟨⟨j0, h0, e0⟩, rfl⟩ := hz9
  subst e0
  have k0 : j0 < 2 ^ 31 := by omega
  have p0 : pIn (nI j0) (σ.1 0) := pIn_nI (by omega) h0
  refine zg_aload_n X dX6_apart_5 rfl ?_
  refine zg_iload_n X dX6_apart_6 rfl ?_
  refine zg_xcallVv X hno (k_X6_requirePerson l hfl D ad T _ hB0 _) zFr.rf gX6_apart_X6_requirePerson rfl rfl rfl qv_X6_requirePerson rfl ⟨Nat.le_of_ble_eq_true rfl, Nat.le_of_ble_eq_true rfl⟩ (q0 := 0) (ci := 8) rfl rfl rfl (Nat.le_of_ble_eq_true rfl) ⟨Nat.le_of_ble_eq_true rfl, Nat.le_of_ble_eq_true rfl⟩ ⟨Nat.le_of_ble_eq_true rfl, Nat.le_of_ble_eq_true rfl⟩ dX6_apart_7 (fun E w1 h => ⟨by rw [h.1.1, sp_apart, if_neg (fun q => h.1.2 q.2)], h.2⟩) (fun w1 hz9 => ?_)
  obtain ⟨⟨j1, h1, e1⟩, rfl⟩ := hz9
  subst e1
  have k1 : j1 < 2 ^ 31 := by omega
  have p1 : pIn (nI j1) (σ.1 0) := pIn_nI (by omega) h1
  refine zg_aload_n X dX6_apart_10 rfl ?_
  refine zg_iload_n X dX6_apart_11 rfl ?_
  refine zg_callVi X (k_X6_findRights l D ad T _ hI j0) zFr.rf gX6_apart_X6_findRights rfl rfl rfl qv_X6_findRights rfl ⟨Nat.le_of_ble_eq_true rfl, Nat.le_of_ble_eq_true rfl⟩ (q0 := 0) (ci := 8) rfl rfl rfl (Nat.le_of_ble_eq_true rfl) ⟨Nat.le_of_ble_eq_true rfl, Nat.le_of_ble_eq_true rfl⟩ dX6_apart_12 (fun r w1 hz9 => ?_)
  obtain ⟨rfl, rfl⟩ := hz9
  refine zg_aload_n X dX6_apart_15 rfl ?_
  refine zg_iload_n X dX6_apart_16 rfl ?_
  refine zg_callVi X (k_X6_findRights l D ad T _ hI j1) zFr.rf gX6_apart_X6_findRights rfl rfl rfl qv_X6_findRights rfl ⟨Nat.le_of_ble_eq_true rfl, Nat.le_of_ble_eq_true rfl⟩ (q0 := 0) (ci := 8) rfl rfl rfl (Nat.le_of_ble_eq_true rfl) ⟨Nat.le_of_ble_eq_true rfl, Nat.le_of_ble_eq_true rfl⟩ dX6_apart_17 (fun r w1 hz9 => ?_)
  obtain ⟨rfl, rfl⟩ := hz9
  refine zg_ixor X dX6_apart_20 ?_
  refine zg_callSi X (k_J6_bitCount_0f7a4 l D ad T _ _) zFr.rf gX6_apart_J6_bitCount_0f7a4 rfl rfl rfl qd_J6_bitCount_0f7a4 rfl ⟨Nat.le_of_ble_eq_true rfl, Nat.le_of_ble_eq_true rfl⟩ rfl (Nat.le_of_ble_eq_true rfl) ⟨Nat.le_of_ble_eq_true rfl, Nat.le_of_ble_eq_true rfl⟩ dX6_apart_21 (fun r w1 hz9 => ?_)
  obtain ⟨rfl, rfl⟩ := hz9
  exact zg_x (zg_iret X hr dX6_apart_24 (Nat.le_of_ble_eq_true rfl) (Nat.le_of_ble_eq_true rfl) (⟨σ, by simp only [sp_apart, if_pos (And.intro p0 p1), ix_nI k0, ix_nI k1], rfl⟩))

set_option maxHeartbeats 4000000 in
set_option maxRecDepth 100000 in
theorem k_X6_isDenied (l : Launch) (hfl : l.stackTraces = false) (D : va_G) (ad : Nat → Nat) (T : Nat → ClassId) (σ : ZS) (hI : zI σ) (x y : Int32) : zMX l yX6_isDenied wsX6_isDenied ({ frames := 7, cells := 2, slots := 12, locals := 111 }) D (zT T) [.ref (ad 0), .int x, .int y] (wC ad T σ) 2 12 (qI D (zT T) (fun v w => ∃ s, sp_isDenied σ x y = .inr (v, s) ∧ w = wC ad T s)) (xE D (zT T) (fun E w => sp_isDenied σ x y = .inl E ∧ w = wC ad T σ)) := by
  have hB0 := hI.bd
  obtain ⟨b0, b1, b2, b3, b4, b5⟩ := hI.bd
  refine zg_ofx (cc := cX6_isDenied) (maxL := 3) (ret := (some .boolean)) (by decide) rfl (Nat.le_of_ble_eq_true rfl) (fun p e s m below meth c A hno hr X => ?_)
  have X : zC p s m _ meth c cX6_isDenied 3 wsX6_isDenied RX6 D (zT T) A := X
  have f6 : ∀ w ∈ u_ws RX6 TX6 9, w ∈ wsX6_isDenied := by decide +kernel
  have f5 : ∀ w ∈ u_ws RX5 TX5 5, w ∈ wsX6_isDenied := by decide +kernel
  have l162 : Cond.fieldLink RX6 162 "Recertify$Rights" "denied" "[I" ∈ wsX6_isDenied := by decide +kernel
  have l26 : Cond.fieldLink RX6 26 "Recertify" "rights" "LRecertify$Rights;" ∈ wsX6_isDenied := by decide +kernel
  refine zg_aload_n X dX6_isDenied_0 rfl ?_
  refine zg_iload_n X dX6_isDenied_1 rfl ?_
  refine zg_xcallVv X hno (k_X6_requirePerson l hfl D ad T _ hB0 _) zFr.rf gX6_isDenied_X6_requirePerson rfl rfl rfl qv_X6_requirePerson rfl ⟨Nat.le_of_ble_eq_true rfl, Nat.le_of_ble_eq_true rfl⟩ (q0 := 0) (ci := 8) rfl rfl rfl (Nat.le_of_ble_eq_true rfl) ⟨Nat.le_of_ble_eq_true rfl, Nat.le_of_ble_eq_true rfl⟩ ⟨Nat.le_of_ble_eq_true rfl, Nat.le_of_ble_eq_true rfl⟩ dX6_isDenied_2 (fun E w1 h => ⟨by rw [h.1.1, sp_isDenied, if_neg (fun q => h.1.2 q.1)], h.2⟩) (fun w1 hz9 => ?_)
  obtain ⟨⟨j0, h0, e0⟩, rfl⟩ := hz9
  subst e0
  have k0 : j0 < 2 ^ 31 := by omega
  have p0 : pIn (nI j0) (σ.1 0) := pIn_nI (by omega) h0
  refine zg_aload_n X dX6_isDenied_5 rfl ?_
  refine zg_iload_n X dX6_isDenied_6 rfl ?_
  refine zg_xcallVv X hno (k_X6_requireRight l hfl D ad T _ hB0 _) zFr.rf gX6_isDenied_X6_requireRight rfl rfl rfl qv_X6_requireRight rfl ⟨Nat.le_of_ble_eq_true rfl, Nat.le_of_ble_eq_true rfl⟩ (q0 := 0) (ci := 8) rfl rfl rfl (Nat.le_of_ble_eq_true rfl) ⟨Nat.le_of_ble_eq_true rfl, Nat.le_of_ble_eq_true rfl⟩ ⟨Nat.le_of_ble_eq_true rfl, Nat.le_of_ble_eq_true rfl⟩ dX6_isDenied_7 (fun E w1 h => ⟨by rw [h.1.1, sp_isDenied, if_neg (fun q => h.1.2 q.2)], h.2⟩) (fun w1 hz9 => ?_)
  obtain ⟨⟨j1, h1, e1⟩, rfl⟩ := hz9
  subst e1
  have k1 : j1 < 2 ^ 31 := by omega
  have p1 : pIn (nI j1) (σ.1 2) := pIn_nI (by omega) h1
  refine zg_aload_n X dX6_isDenied_10 rfl ?_
  refine rg_R_rights X f6 l26 dX6_isDenied_11 ?_
  refine rg_Rights_denied X f5 l162 dX6_isDenied_14 ?_
  refine zg_iload_n X dX6_isDenied_17 rfl ?_
  refine rlC_denied X (by omega) dX6_isDenied_18 ?_
  refine zg_iload_n X dX6_isDenied_19 rfl ?_
  refine zg_callSi X (k_X6_contains l D ad T _ _ j0) zFr.rf gX6_isDenied_X6_contains rfl rfl rfl qd_X6_contains rfl ⟨Nat.le_of_ble_eq_true rfl, Nat.le_of_ble_eq_true rfl⟩ rfl (Nat.le_of_ble_eq_true rfl) ⟨Nat.le_of_ble_eq_true rfl, Nat.le_of_ble_eq_true rfl⟩ dX6_isDenied_20 (fun r w1 hz9 => ?_)
  obtain ⟨rfl, rfl⟩ := hz9
  exact zg_x (zg_nret X hr (bI_nar) dX6_isDenied_23 (Nat.le_of_ble_eq_true rfl) (Nat.le_of_ble_eq_true rfl) (⟨σ, by simp only [sp_isDenied, if_pos (And.intro p0 p1), ix_nI k0, ix_nI k1], rfl⟩))

set_option maxHeartbeats 4000000 in
set_option maxRecDepth 100000 in
theorem k_X6_paths (l : Launch) (hfl : l.stackTraces = false) (D : va_G) (ad : Nat → Nat) (T : Nat → ClassId) (σ : ZS) (hI : zI σ) (x y : Int32) : zMX l yX6_paths wsX6_paths ({ frames := 13, cells := 2, slots := 12, locals := 372 }) D (zT T) [.ref (ad 0), .int x, .int y] (wC ad T σ) 2 12 (qI D (zT T) (fun v w => ∃ s, sp_paths σ x y = .inr (v, s) ∧ w = wC ad T s)) (xE D (zT T) (fun E w => sp_paths σ x y = .inl E ∧ w = wC ad T σ)) := by
  have hB0 := hI.bd
  obtain ⟨b0, b1, b2, b3, b4, b5⟩ := hI.bd
  refine zg_ofx (cc := cX6_paths) (maxL := 3) (ret := (some .int)) (by decide) rfl (Nat.le_of_ble_eq_true rfl) (fun p e s m below meth c A hno hr X => ?_)
  have X : zC p s m _ meth c cX6_paths 3 wsX6_paths RX6 D (zT T) A := X
  refine zg_aload_n X dX6_paths_0 rfl ?_
  refine zg_iload_n X dX6_paths_1 rfl ?_
  refine zg_xcallVv X hno (k_X6_requirePerson l hfl D ad T _ hB0 _) zFr.rf gX6_paths_X6_requirePerson rfl rfl rfl qv_X6_requirePerson rfl ⟨Nat.le_of_ble_eq_true rfl, Nat.le_of_ble_eq_true rfl⟩ (q0 := 0) (ci := 8) rfl rfl rfl (Nat.le_of_ble_eq_true rfl) ⟨Nat.le_of_ble_eq_true rfl, Nat.le_of_ble_eq_true rfl⟩ ⟨Nat.le_of_ble_eq_true rfl, Nat.le_of_ble_eq_true rfl⟩ dX6_paths_2 (fun E w1 h => ⟨by rw [h.1.1, sp_paths, if_neg (fun q => h.1.2 q.1)], h.2⟩) (fun w1 hz9 => ?_)
  obtain ⟨⟨j0, h0, e0⟩, rfl⟩ := hz9
  subst e0
  have k0 : j0 < 2 ^ 31 := by omega
  have p0 : pIn (nI j0) (σ.1 0) := pIn_nI (by omega) h0
  refine zg_aload_n X dX6_paths_5 rfl ?_
  refine zg_iload_n X dX6_paths_6 rfl ?_
  refine zg_xcallVv X hno (k_X6_requireRight l hfl D ad T _ hB0 _) zFr.rf gX6_paths_X6_requireRight rfl rfl rfl qv_X6_requireRight rfl ⟨Nat.le_of_ble_eq_true rfl, Nat.le_of_ble_eq_true rfl⟩ (q0 := 0) (ci := 8) rfl rfl rfl (Nat.le_of_ble_eq_true rfl) ⟨Nat.le_of_ble_eq_true rfl, Nat.le_of_ble_eq_true rfl⟩ ⟨Nat.le_of_ble_eq_true rfl, Nat.le_of_ble_eq_true rfl⟩ dX6_paths_7 (fun E w1 h => ⟨by rw [h.1.1, sp_paths, if_neg (fun q => h.1.2 q.2)], h.2⟩) (fun w1 hz9 => ?_)
  obtain ⟨⟨j1, h1, e1⟩, rfl⟩ := hz9
  subst e1
  have k1 : j1 < 2 ^ 31 := by omega
  have p1 : pIn (nI j1) (σ.1 2) := pIn_nI (by omega) h1
  refine zg_aload_n X dX6_paths_10 rfl ?_
  refine zg_iload_n X dX6_paths_11 rfl ?_
  refine zg_iload_n X dX6_paths_12 rfl ?_
  refine zg_callVi X (k_X6_countWays l D ad T _ hI j0 j1) zFr.rf gX6_paths_X6_countWays rfl rfl rfl qv_X6_countWays rfl ⟨Nat.le_of_ble_eq_true rfl, Nat.le_of_ble_eq_true rfl⟩ (q0 := 0) (ci := 8) rfl rfl rfl (Nat.le_of_ble_eq_true rfl) ⟨Nat.le_of_ble_eq_true rfl, Nat.le_of_ble_eq_true rfl⟩ dX6_paths_13 (fun r w1 hz9 => ?_)
  obtain ⟨rfl, rfl⟩ := hz9
  exact zg_x (zg_iret X hr dX6_paths_16 (Nat.le_of_ble_eq_true rfl) (Nat.le_of_ble_eq_true rfl) (⟨σ, by simp only [sp_paths, if_pos (And.intro p0 p1), ix_nI k0, ix_nI k1], rfl⟩))

set_option maxHeartbeats 4000000 in
set_option maxRecDepth 100000 in
theorem k_X6_pathLength (l : Launch) (hfl : l.stackTraces = false) (D : va_G) (ad : Nat → Nat) (T : Nat → ClassId) (σ : ZS) (hI : zI σ) (x y : Int32) : zMX l yX6_pathLength wsX6_pathLength ({ frames := 7, cells := 3, slots := 18, locals := 111 }) D (zT T) [.ref (ad 0), .int x, .int y] (wC ad T σ) 3 18 (qI D (zT T) (fun v w => ∃ s, sp_pathLength σ x y = .inr (v, s) ∧ w = wC ad T s)) (xE D (zT T) (fun E w => sp_pathLength σ x y = .inl E ∧ w = wC ad T σ)) := by
  have hB0 := hI.bd
  obtain ⟨b0, b1, b2, b3, b4, b5⟩ := hI.bd
  refine zg_ofx (cc := cX6_pathLength) (maxL := 4) (ret := (some .int)) (by decide) rfl (Nat.le_of_ble_eq_true rfl) (fun p e s m below meth c A hno hr X => ?_)
  have X : zC p s m _ meth c cX6_pathLength 4 wsX6_pathLength RX6 D (zT T) A := X
  have l75 : Cond.classLink RX6 75 "java/lang/IllegalStateException" ∈ wsX6_pathLength := by decide +kernel
  refine zg_aload_n X dX6_pathLength_0 rfl ?_
  refine zg_iload_n X dX6_pathLength_1 rfl ?_
  refine zg_xcallVv X hno (k_X6_requirePerson l hfl D ad T _ hB0 _) zFr.rf gX6_pathLength_X6_requirePerson rfl rfl rfl qv_X6_requirePerson rfl ⟨Nat.le_of_ble_eq_true rfl, Nat.le_of_ble_eq_true rfl⟩ (q0 := 0) (ci := 8) rfl rfl rfl (Nat.le_of_ble_eq_true rfl) ⟨Nat.le_of_ble_eq_true rfl, Nat.le_of_ble_eq_true rfl⟩ ⟨Nat.le_of_ble_eq_true rfl, Nat.le_of_ble_eq_true rfl⟩ dX6_pathLength_2 (fun E w1 h => ⟨by rw [h.1.1, sp_pathLength, if_neg (fun q => h.1.2 q.1)], h.2⟩) (fun w1 hz9 => ?_)
  obtain ⟨⟨j0, h0, e0⟩, rfl⟩ := hz9
  subst e0
  have k0 : j0 < 2 ^ 31 := by omega
  have p0 : pIn (nI j0) (σ.1 0) := pIn_nI (by omega) h0
  refine zg_aload_n X dX6_pathLength_5 rfl ?_
  refine zg_iload_n X dX6_pathLength_6 rfl ?_
  refine zg_xcallVv X hno (k_X6_requireRight l hfl D ad T _ hB0 _) zFr.rf gX6_pathLength_X6_requireRight rfl rfl rfl qv_X6_requireRight rfl ⟨Nat.le_of_ble_eq_true rfl, Nat.le_of_ble_eq_true rfl⟩ (q0 := 0) (ci := 8) rfl rfl rfl (Nat.le_of_ble_eq_true rfl) ⟨Nat.le_of_ble_eq_true rfl, Nat.le_of_ble_eq_true rfl⟩ ⟨Nat.le_of_ble_eq_true rfl, Nat.le_of_ble_eq_true rfl⟩ dX6_pathLength_7 (fun E w1 h => ⟨by rw [h.1.1, sp_pathLength, if_neg (fun q => h.1.2 q.2)], h.2⟩) (fun w1 hz9 => ?_)
  obtain ⟨⟨j1, h1, e1⟩, rfl⟩ := hz9
  subst e1
  have k1 : j1 < 2 ^ 31 := by omega
  have p1 : pIn (nI j1) (σ.1 2) := pIn_nI (by omega) h1
  refine zg_aload_n X dX6_pathLength_10 rfl ?_
  refine zg_iload_n X dX6_pathLength_11 rfl ?_
  refine zg_iload_n X dX6_pathLength_12 rfl ?_
  refine zg_callVi X (k_X6_findLeastLength l D ad T _ hI j0 j1) zFr.rf gX6_pathLength_X6_findLeastLength rfl rfl rfl qv_X6_findLeastLength rfl ⟨Nat.le_of_ble_eq_true rfl, Nat.le_of_ble_eq_true rfl⟩ (q0 := 0) (ci := 8) rfl rfl rfl (Nat.le_of_ble_eq_true rfl) ⟨Nat.le_of_ble_eq_true rfl, Nat.le_of_ble_eq_true rfl⟩ dX6_pathLength_13 (fun r w1 hz9 => ?_)
  obtain ⟨rfl, rfl⟩ := hz9
  refine zg_istore_n X dX6_pathLength_16 (by decide) ?_
  refine zg_iload_n X dX6_pathLength_17 rfl ?_
  refine zg_iconst X (v := (-1)) dX6_pathLength_18 (by decide) ?_
  refine zg_icmp_ne X dX6_pathLength_19 (tgt := 32) (by decide) (fun c_19 => ?_) (fun c_19 => ?_)
  · skip
    refine zg_iload_n X dX6_pathLength_32 rfl ?_
    exact zg_x (zg_iret X hr dX6_pathLength_33 (Nat.le_of_ble_eq_true rfl) (Nat.le_of_ble_eq_true rfl) (⟨σ, by simp only [sp_pathLength, if_pos (And.intro p0 p1), ix_nI k0, ix_nI k1, if_neg c_19], rfl⟩))
  · skip
    exact zg_throw X hfl (text := "no active grant of the right reaches the person") hno tq_X6_79.1 tq_X6_79.2.1 l75 (by decide +kernel) (by decide +kernel) (fun w h => by have h : w ∈ (vx_atS RX6 79 "java/lang/IllegalStateException" ["java/lang/RuntimeException", "java/lang/Exception"]).filter goodWord := h; revert w; decide +kernel) tq_X6_79.2.2.1 (by decide +kernel) tq_X6_79.2.2.2 dX6_pathLength_22 dX6_pathLength_25 dX6_pathLength_26 dX6_pathLength_28 dX6_pathLength_31 ⟨Nat.le_of_ble_eq_true rfl, Nat.le_of_ble_eq_true rfl, Nat.le_of_ble_eq_true rfl, Nat.le_of_ble_eq_true rfl⟩ ⟨Nat.le_of_ble_eq_true rfl, Nat.le_of_ble_eq_true rfl⟩ (⟨by simp only [sp_pathLength, if_pos (And.intro p0 p1), ix_nI k0, ix_nI k1, if_pos c_19], rfl⟩)

set_option maxHeartbeats 4000000 in
set_option maxRecDepth 100000 in
theorem k_X6_pathAt (l : Launch) (hfl : l.stackTraces = false) (D : va_G) (ad : Nat → Nat) (T : Nat → ClassId) (σ : ZS) (hI : zI σ) (x y z : Int32) : zMX l yX6_pathAt wsX6_pathAt ({ frames := 7, cells := 3, slots := 18, locals := 111 }) D (zT T) [.ref (ad 0), .int x, .int y, .int z] (wC ad T σ) 3 18 (qI D (zT T) (fun v w => ∃ s, sp_pathAt σ x y z = .inr (v, s) ∧ w = wC ad T s)) (xE D (zT T) (fun E w => sp_pathAt σ x y z = .inl E ∧ w = wC ad T σ)) := by
  have hB0 := hI.bd
  obtain ⟨b0, b1, b2, b3, b4, b5⟩ := hI.bd
  refine zg_ofx (cc := cX6_pathAt) (maxL := 5) (ret := (some .int)) (by decide) rfl (Nat.le_of_ble_eq_true rfl) (fun p e s m below meth c A hno hr X => ?_)
  have X : zC p s m _ meth c cX6_pathAt 5 wsX6_pathAt RX6 D (zT T) A := X
  have f6 : ∀ w ∈ u_ws RX6 TX6 9, w ∈ wsX6_pathAt := by decide +kernel
  have l19 : Cond.fieldLink RX6 19 "Recertify" "groups" "LRecertify$Groups;" ∈ wsX6_pathAt := by decide +kernel
  have l210 : Cond.classLink RX6 210 "java/lang/IndexOutOfBoundsException" ∈ wsX6_pathAt := by decide +kernel
  have l75 : Cond.classLink RX6 75 "java/lang/IllegalStateException" ∈ wsX6_pathAt := by decide +kernel
  refine zg_aload_n X dX6_pathAt_0 rfl ?_
  refine zg_iload_n X dX6_pathAt_1 rfl ?_
  refine zg_xcallVv X hno (k_X6_requirePerson l hfl D ad T _ hB0 _) zFr.rf gX6_pathAt_X6_requirePerson rfl rfl rfl qv_X6_requirePerson rfl ⟨Nat.le_of_ble_eq_true rfl, Nat.le_of_ble_eq_true rfl⟩ (q0 := 0) (ci := 8) rfl rfl rfl (Nat.le_of_ble_eq_true rfl) ⟨Nat.le_of_ble_eq_true rfl, Nat.le_of_ble_eq_true rfl⟩ ⟨Nat.le_of_ble_eq_true rfl, Nat.le_of_ble_eq_true rfl⟩ dX6_pathAt_2 (fun E w1 h => ⟨by rw [h.1.1, sp_pathAt, if_neg (fun q => h.1.2 q.1)], h.2⟩) (fun w1 hz9 => ?_)
  obtain ⟨⟨j0, h0, e0⟩, rfl⟩ := hz9
  subst e0
  have k0 : j0 < 2 ^ 31 := by omega
  have p0 : pIn (nI j0) (σ.1 0) := pIn_nI (by omega) h0
  refine zg_aload_n X dX6_pathAt_5 rfl ?_
  refine zg_iload_n X dX6_pathAt_6 rfl ?_
  refine zg_xcallVv X hno (k_X6_requireRight l hfl D ad T _ hB0 _) zFr.rf gX6_pathAt_X6_requireRight rfl rfl rfl qv_X6_requireRight rfl ⟨Nat.le_of_ble_eq_true rfl, Nat.le_of_ble_eq_true rfl⟩ (q0 := 0) (ci := 8) rfl rfl rfl (Nat.le_of_ble_eq_true rfl) ⟨Nat.le_of_ble_eq_true rfl, Nat.le_of_ble_eq_true rfl⟩ ⟨Nat.le_of_ble_eq_true rfl, Nat.le_of_ble_eq_true rfl⟩ dX6_pathAt_7 (fun E w1 h => ⟨by rw [h.1.1, sp_pathAt, if_neg (fun q => h.1.2 q.2)], h.2⟩) (fun w1 hz9 => ?_)
  obtain ⟨⟨j1, h1, e1⟩, rfl⟩ := hz9
  subst e1
  have k1 : j1 < 2 ^ 31 := by omega
  have p1 : pIn (nI j1) (σ.1 2) := pIn_nI (by omega) h1
  refine zg_aload_n X dX6_pathAt_10 rfl ?_
  refine zg_iload_n X dX6_pathAt_11 rfl ?_
  refine zg_iload_n X dX6_pathAt_12 rfl ?_
  refine zg_callVi X (k_X6_findLeastLength l D ad T _ hI j0 j1) zFr.rf gX6_pathAt_X6_findLeastLength rfl rfl rfl qv_X6_findLeastLength rfl ⟨Nat.le_of_ble_eq_true rfl, Nat.le_of_ble_eq_true rfl⟩ (q0 := 0) (ci := 8) rfl rfl rfl (Nat.le_of_ble_eq_true rfl) ⟨Nat.le_of_ble_eq_true rfl, Nat.le_of_ble_eq_true rfl⟩ dX6_pathAt_13 (fun r w1 hz9 => ?_)
  obtain ⟨rfl, rfl⟩ := hz9
  refine zg_istore X dX6_pathAt_16 (by decide) ?_
  refine zg_iload X dX6_pathAt_18 rfl ?_
  refine zg_iconst X (v := (-1)) dX6_pathAt_20 (by decide) ?_
  refine zg_icmp_ne X dX6_pathAt_21 (tgt := 34) (by decide) (fun c_21 => ?_) (fun c_21 => ?_)
  · skip
    refine zg_iload_n X dX6_pathAt_34 rfl ?_
    refine zg_if_lt X dX6_pathAt_35 (tgt := 44) (by decide) (fun c_35 => ?_) (fun c_35 => ?_)
    · skip
      exact zg_throw X hfl (text := "the path has no such index") hno tq_X6_214.1 tq_X6_214.2.1 l210 (by decide +kernel) (by decide +kernel) (fun w h => by have h : w ∈ (vx_atS RX6 214 "java/lang/IndexOutOfBoundsException" ["java/lang/RuntimeException", "java/lang/Exception"]).filter goodWord := h; revert w; decide +kernel) tq_X6_214.2.2.1 (by decide +kernel) tq_X6_214.2.2.2 dX6_pathAt_44 dX6_pathAt_47 dX6_pathAt_48 dX6_pathAt_50 dX6_pathAt_53 ⟨Nat.le_of_ble_eq_true rfl, Nat.le_of_ble_eq_true rfl, Nat.le_of_ble_eq_true rfl, Nat.le_of_ble_eq_true rfl⟩ ⟨Nat.le_of_ble_eq_true rfl, Nat.le_of_ble_eq_true rfl⟩ (⟨by simp only [sp_pathAt, if_pos (And.intro p0 p1), ix_nI k0, ix_nI k1, if_neg c_21, if_neg (show ¬ (0 ≤ z ∧ z < lenI σ j0 j1) from fun q => zi_le.mp q.1 c_35)], rfl⟩)
    · skip
      refine zg_iload_n X dX6_pathAt_38 rfl ?_
      refine zg_iload X dX6_pathAt_39 rfl ?_
      refine zg_icmp_lt X dX6_pathAt_41 (tgt := 54) (by decide) (fun c_41 => ?_) (fun c_41 => ?_)
      · skip
        have hz : 0 ≤ z ∧ z < lenI σ j0 j1 := ⟨zi_le.mpr c_35, c_41⟩
        obtain ⟨k, hk, ek⟩ := lenI_ix c_21
        obtain ⟨t, ht, et⟩ := pIn_idx (n := k) (by omega) ⟨hz.1, by rw [← ek]; exact hz.2⟩
        subst et
        refine zg_aload_n X dX6_pathAt_54 rfl ?_
        refine rg_R_groups X f6 l19 dX6_pathAt_55 ?_
        refine zg_aload_n X dX6_pathAt_58 rfl ?_
        refine zg_iload_n X dX6_pathAt_59 rfl ?_
        refine zg_callVi X (k_X6_findGrantedGroups l D ad T _ hI j1) zFr.rf gX6_pathAt_X6_findGrantedGroups rfl rfl rfl qv_X6_findGrantedGroups rfl ⟨Nat.le_of_ble_eq_true rfl, Nat.le_of_ble_eq_true rfl⟩ (q0 := 0) (ci := 8) rfl rfl rfl (Nat.le_of_ble_eq_true rfl) ⟨Nat.le_of_ble_eq_true rfl, Nat.le_of_ble_eq_true rfl⟩ dX6_pathAt_60 (fun r w1 hz9 => ?_)
        obtain ⟨rfl, rfl⟩ := hz9
        refine zg_iload_n X dX6_pathAt_63 rfl ?_
        refine zg_iload X dX6_pathAt_64 rfl ?_
        refine zg_iload_n X dX6_pathAt_66 rfl ?_
        refine zg_st (st' := .int (nI t) :: .int (nI k) :: .int (nI j0) :: .int (grgI σ j1) :: .ref (ad 2) :: []) (by rw [ek]) ?_
        refine zg_callVi X (k_X3_findOnPath l D ad T _ hB0 _ j0 k t (by omega)) zFr.rf gX6_pathAt_X3_findOnPath rfl rfl rfl qv_X3_findOnPath rfl ⟨Nat.le_of_ble_eq_true rfl, Nat.le_of_ble_eq_true rfl⟩ (q0 := 2) (ci := 5) rfl rfl rfl (Nat.le_of_ble_eq_true rfl) ⟨Nat.le_of_ble_eq_true rfl, Nat.le_of_ble_eq_true rfl⟩ dX6_pathAt_67 (fun r w1 hz9 => ?_)
        obtain ⟨rfl, rfl⟩ := hz9
        exact zg_x (zg_iret X hr dX6_pathAt_70 (Nat.le_of_ble_eq_true rfl) (Nat.le_of_ble_eq_true rfl) (⟨σ, by rw [sp_pathAt, if_pos (And.intro p0 p1), ix_nI k0, ix_nI k1, if_neg c_21, if_pos hz, ek, ix_nI (show k < 2 ^ 31 by omega), ix_nI (show t < 2 ^ 31 by omega)], rfl⟩))
      · skip
        exact zg_throw X hfl (text := "the path has no such index") hno tq_X6_214.1 tq_X6_214.2.1 l210 (by decide +kernel) (by decide +kernel) (fun w h => by have h : w ∈ (vx_atS RX6 214 "java/lang/IndexOutOfBoundsException" ["java/lang/RuntimeException", "java/lang/Exception"]).filter goodWord := h; revert w; decide +kernel) tq_X6_214.2.2.1 (by decide +kernel) tq_X6_214.2.2.2 dX6_pathAt_44 dX6_pathAt_47 dX6_pathAt_48 dX6_pathAt_50 dX6_pathAt_53 ⟨Nat.le_of_ble_eq_true rfl, Nat.le_of_ble_eq_true rfl, Nat.le_of_ble_eq_true rfl, Nat.le_of_ble_eq_true rfl⟩ ⟨Nat.le_of_ble_eq_true rfl, Nat.le_of_ble_eq_true rfl⟩ (⟨by simp only [sp_pathAt, if_pos (And.intro p0 p1), ix_nI k0, ix_nI k1, if_neg c_21, if_neg (show ¬ (0 ≤ z ∧ z < lenI σ j0 j1) from fun q => c_41 q.2)], rfl⟩)
  · skip
    exact zg_throw X hfl (text := "no active grant of the right reaches the person") hno tq_X6_79.1 tq_X6_79.2.1 l75 (by decide +kernel) (by decide +kernel) (fun w h => by have h : w ∈ (vx_atS RX6 79 "java/lang/IllegalStateException" ["java/lang/RuntimeException", "java/lang/Exception"]).filter goodWord := h; revert w; decide +kernel) tq_X6_79.2.2.1 (by decide +kernel) tq_X6_79.2.2.2 dX6_pathAt_24 dX6_pathAt_27 dX6_pathAt_28 dX6_pathAt_30 dX6_pathAt_33 ⟨Nat.le_of_ble_eq_true rfl, Nat.le_of_ble_eq_true rfl, Nat.le_of_ble_eq_true rfl, Nat.le_of_ble_eq_true rfl⟩ ⟨Nat.le_of_ble_eq_true rfl, Nat.le_of_ble_eq_true rfl⟩ (⟨by simp only [sp_pathAt, if_pos (And.intro p0 p1), ix_nI k0, ix_nI k1, if_pos c_21], rfl⟩)

set_option maxHeartbeats 4000000 in
set_option maxRecDepth 100000 in
theorem k_X6_riskOf (l : Launch) (hfl : l.stackTraces = false) (D : va_G) (ad : Nat → Nat) (T : Nat → ClassId) (σ : ZS) (hI : zI σ) (x : Int32) : zMX l yX6_riskOf wsX6_riskOf ({ frames := 7, cells := 2, slots := 12, locals := 114 }) D (zT T) [.ref (ad 0), .int x] (wC ad T σ) 2 12 (qI D (zT T) (fun v w => ∃ s, sp_riskOf σ x = .inr (v, s) ∧ w = wC ad T s)) (xE D (zT T) (fun E w => sp_riskOf σ x = .inl E ∧ w = wC ad T σ)) := by
  have hB0 := hI.bd
  obtain ⟨b0, b1, b2, b3, b4, b5⟩ := hI.bd
  refine zg_ofx (cc := cX6_riskOf) (maxL := 2) (ret := (some .int)) (by decide) rfl (Nat.le_of_ble_eq_true rfl) (fun p e s m below meth c A hno hr X => ?_)
  have X : zC p s m _ meth c cX6_riskOf 2 wsX6_riskOf RX6 D (zT T) A := X
  have f6 : ∀ w ∈ u_ws RX6 TX6 9, w ∈ wsX6_riskOf := by decide +kernel
  have f2 : ∀ w ∈ u_ws RX2 TX2 7, w ∈ wsX6_riskOf := by decide +kernel
  have l186 : Cond.fieldLink RX6 186 "Recertify$Grants" "states" "[C" ∈ wsX6_riskOf := by decide +kernel
  have l33 : Cond.fieldLink RX6 33 "Recertify" "grants" "LRecertify$Grants;" ∈ wsX6_riskOf := by decide +kernel
  have l75 : Cond.classLink RX6 75 "java/lang/IllegalStateException" ∈ wsX6_riskOf := by decide +kernel
  refine zg_aload_n X dX6_riskOf_0 rfl ?_
  refine zg_iload_n X dX6_riskOf_1 rfl ?_
  refine zg_xcallVv X hno (k_X6_requireGrant l hfl D ad T _ hB0 _) zFr.rf gX6_riskOf_X6_requireGrant rfl rfl rfl qv_X6_requireGrant rfl ⟨Nat.le_of_ble_eq_true rfl, Nat.le_of_ble_eq_true rfl⟩ (q0 := 0) (ci := 8) rfl rfl rfl (Nat.le_of_ble_eq_true rfl) ⟨Nat.le_of_ble_eq_true rfl, Nat.le_of_ble_eq_true rfl⟩ ⟨Nat.le_of_ble_eq_true rfl, Nat.le_of_ble_eq_true rfl⟩ dX6_riskOf_2 (fun E w1 h => ⟨by rw [h.1.1, sp_riskOf, if_neg h.1.2], h.2⟩) (fun w1 hz9 => ?_)
  obtain ⟨⟨j0, h0, e0⟩, rfl⟩ := hz9
  subst e0
  have k0 : j0 < 2 ^ 31 := by omega
  have p0 : pIn (nI j0) (σ.1 3) := pIn_nI (by omega) h0
  refine zg_aload_n X dX6_riskOf_5 rfl ?_
  refine rg_R_grants X f6 l33 dX6_riskOf_6 ?_
  refine rg_Grants_states X f2 l186 dX6_riskOf_9 ?_
  refine zg_iload_n X dX6_riskOf_12 rfl ?_
  refine rlC_states X (by omega) dX6_riskOf_13 ?_
  refine zg_bipush X (v := 120) dX6_riskOf_14 (by decide) ?_
  refine zg_icmp_ne X dX6_riskOf_16 (tgt := 29) (by decide) (fun c_16 => ?_) (fun c_16 => ?_)
  · skip
    refine zg_aload_n X dX6_riskOf_29 rfl ?_
    refine zg_iload_n X dX6_riskOf_30 rfl ?_
    refine zg_callVi X (k_X6_rateGrant l D ad T _ hI j0 h0) zFr.rf gX6_riskOf_X6_rateGrant rfl rfl rfl qv_X6_rateGrant rfl ⟨Nat.le_of_ble_eq_true rfl, Nat.le_of_ble_eq_true rfl⟩ (q0 := 0) (ci := 8) rfl rfl rfl (Nat.le_of_ble_eq_true rfl) ⟨Nat.le_of_ble_eq_true rfl, Nat.le_of_ble_eq_true rfl⟩ dX6_riskOf_31 (fun r w1 hz9 => ?_)
    obtain ⟨rfl, rfl⟩ := hz9
    exact zg_x (zg_iret X hr dX6_riskOf_34 (Nat.le_of_ble_eq_true rfl) (Nat.le_of_ble_eq_true rfl) (⟨σ, by simp only [sp_riskOf, if_pos p0, ix_nI k0, if_neg c_16], rfl⟩))
  · skip
    exact zg_throw X hfl (text := "the grant has ended") hno tq_X6_79.1 tq_X6_79.2.1 l75 (by decide +kernel) (by decide +kernel) (fun w h => by have h : w ∈ (vx_atS RX6 79 "java/lang/IllegalStateException" ["java/lang/RuntimeException", "java/lang/Exception"]).filter goodWord := h; revert w; decide +kernel) tq_X6_79.2.2.1 (by decide +kernel) tq_X6_79.2.2.2 dX6_riskOf_19 dX6_riskOf_22 dX6_riskOf_23 dX6_riskOf_25 dX6_riskOf_28 ⟨Nat.le_of_ble_eq_true rfl, Nat.le_of_ble_eq_true rfl, Nat.le_of_ble_eq_true rfl, Nat.le_of_ble_eq_true rfl⟩ ⟨Nat.le_of_ble_eq_true rfl, Nat.le_of_ble_eq_true rfl⟩ (⟨by simp only [sp_riskOf, if_pos p0, ix_nI k0, if_pos c_16], rfl⟩)

set_option maxHeartbeats 4000000 in
set_option maxRecDepth 100000 in
theorem k_X6_riskFor (l : Launch) (hfl : l.stackTraces = false) (D : va_G) (ad : Nat → Nat) (T : Nat → ClassId) (σ : ZS) (hI : zI σ) (x y : Int32) : zMX l yX6_riskFor wsX6_riskFor ({ frames := 7, cells := 2, slots := 12, locals := 111 }) D (zT T) [.ref (ad 0), .int x, .int y] (wC ad T σ) 2 12 (qI D (zT T) (fun v w => ∃ s, sp_riskFor σ x y = .inr (v, s) ∧ w = wC ad T s)) (xE D (zT T) (fun E w => sp_riskFor σ x y = .inl E ∧ w = wC ad T σ)) := by
  have hB0 := hI.bd
  obtain ⟨b0, b1, b2, b3, b4, b5⟩ := hI.bd
  refine zg_ofx (cc := cX6_riskFor) (maxL := 3) (ret := (some .int)) (by decide) rfl (Nat.le_of_ble_eq_true rfl) (fun p e s m below meth c A hno hr X => ?_)
  have X : zC p s m _ meth c cX6_riskFor 3 wsX6_riskFor RX6 D (zT T) A := X
  refine zg_aload_n X dX6_riskFor_0 rfl ?_
  refine zg_iload_n X dX6_riskFor_1 rfl ?_
  refine zg_xcallVv X hno (k_X6_requirePerson l hfl D ad T _ hB0 _) zFr.rf gX6_riskFor_X6_requirePerson rfl rfl rfl qv_X6_requirePerson rfl ⟨Nat.le_of_ble_eq_true rfl, Nat.le_of_ble_eq_true rfl⟩ (q0 := 0) (ci := 8) rfl rfl rfl (Nat.le_of_ble_eq_true rfl) ⟨Nat.le_of_ble_eq_true rfl, Nat.le_of_ble_eq_true rfl⟩ ⟨Nat.le_of_ble_eq_true rfl, Nat.le_of_ble_eq_true rfl⟩ dX6_riskFor_2 (fun E w1 h => ⟨by rw [h.1.1, sp_riskFor, if_neg (fun q => h.1.2 q.1)], h.2⟩) (fun w1 hz9 => ?_)
  obtain ⟨⟨j0, h0, e0⟩, rfl⟩ := hz9
  subst e0
  have k0 : j0 < 2 ^ 31 := by omega
  have p0 : pIn (nI j0) (σ.1 0) := pIn_nI (by omega) h0
  refine zg_aload_n X dX6_riskFor_5 rfl ?_
  refine zg_iload_n X dX6_riskFor_6 rfl ?_
  refine zg_xcallVv X hno (k_X6_requireRight l hfl D ad T _ hB0 _) zFr.rf gX6_riskFor_X6_requireRight rfl rfl rfl qv_X6_requireRight rfl ⟨Nat.le_of_ble_eq_true rfl, Nat.le_of_ble_eq_true rfl⟩ (q0 := 0) (ci := 8) rfl rfl rfl (Nat.le_of_ble_eq_true rfl) ⟨Nat.le_of_ble_eq_true rfl, Nat.le_of_ble_eq_true rfl⟩ ⟨Nat.le_of_ble_eq_true rfl, Nat.le_of_ble_eq_true rfl⟩ dX6_riskFor_7 (fun E w1 h => ⟨by rw [h.1.1, sp_riskFor, if_neg (fun q => h.1.2 q.2)], h.2⟩) (fun w1 hz9 => ?_)
  obtain ⟨⟨j1, h1, e1⟩, rfl⟩ := hz9
  subst e1
  have k1 : j1 < 2 ^ 31 := by omega
  have p1 : pIn (nI j1) (σ.1 2) := pIn_nI (by omega) h1
  refine zg_aload_n X dX6_riskFor_10 rfl ?_
  refine zg_iload_n X dX6_riskFor_11 rfl ?_
  refine zg_iload_n X dX6_riskFor_12 rfl ?_
  refine zg_aload_n X dX6_riskFor_13 rfl ?_
  refine zg_iload_n X dX6_riskFor_14 rfl ?_
  refine zg_iconst X (v := (-1)) dX6_riskFor_15 (by decide) ?_
  refine zg_callVi X (k_X6_findHolders l D ad T _ hI j1 (by omega) (-1)) zFr.rf gX6_riskFor_X6_findHolders rfl rfl rfl qv_X6_findHolders rfl ⟨Nat.le_of_ble_eq_true rfl, Nat.le_of_ble_eq_true rfl⟩ (q0 := 0) (ci := 8) rfl rfl rfl (Nat.le_of_ble_eq_true rfl) ⟨Nat.le_of_ble_eq_true rfl, Nat.le_of_ble_eq_true rfl⟩ dX6_riskFor_16 (fun r w1 hz9 => ?_)
  obtain ⟨rfl, rfl⟩ := hz9
  refine zg_callVi X (k_X6_rateRight l D ad T _ hB0 j1 j0 (by omega) (by omega) _) zFr.rf gX6_riskFor_X6_rateRight rfl rfl rfl qv_X6_rateRight rfl ⟨Nat.le_of_ble_eq_true rfl, Nat.le_of_ble_eq_true rfl⟩ (q0 := 0) (ci := 8) rfl rfl rfl (Nat.le_of_ble_eq_true rfl) ⟨Nat.le_of_ble_eq_true rfl, Nat.le_of_ble_eq_true rfl⟩ dX6_riskFor_19 (fun r w1 hz9 => ?_)
  obtain ⟨rfl, rfl⟩ := hz9
  exact zg_x (zg_iret X hr dX6_riskFor_22 (Nat.le_of_ble_eq_true rfl) (Nat.le_of_ble_eq_true rfl) (⟨σ, by simp only [sp_riskFor, if_pos (And.intro p0 p1), ix_nI k0, ix_nI k1], rfl⟩))

set_option maxHeartbeats 4000000 in
set_option maxRecDepth 100000 in
theorem k_X6_reviewerOf (l : Launch) (hfl : l.stackTraces = false) (D : va_G) (ad : Nat → Nat) (T : Nat → ClassId) (σ : ZS) (hI : zI σ) (x : Int32) : zMX l yX6_reviewerOf wsX6_reviewerOf ({ frames := 7, cells := 1, slots := 6, locals := 111 }) D (zT T) [.ref (ad 0), .int x] (wC ad T σ) 1 6 (qI D (zT T) (fun v w => ∃ s, sp_reviewerOf σ x = .inr (v, s) ∧ w = wC ad T s)) (xE D (zT T) (fun E w => sp_reviewerOf σ x = .inl E ∧ w = wC ad T σ)) := by
  have hB0 := hI.bd
  obtain ⟨b0, b1, b2, b3, b4, b5⟩ := hI.bd
  refine zg_ofx (cc := cX6_reviewerOf) (maxL := 2) (ret := (some .int)) (by decide) rfl (Nat.le_of_ble_eq_true rfl) (fun p e s m below meth c A hno hr X => ?_)
  have X : zC p s m _ meth c cX6_reviewerOf 2 wsX6_reviewerOf RX6 D (zT T) A := X
  refine zg_aload_n X dX6_reviewerOf_0 rfl ?_
  refine zg_iload_n X dX6_reviewerOf_1 rfl ?_
  refine zg_xcallVv X hno (k_X6_requireGrant l hfl D ad T _ hB0 _) zFr.rf gX6_reviewerOf_X6_requireGrant rfl rfl rfl qv_X6_requireGrant rfl ⟨Nat.le_of_ble_eq_true rfl, Nat.le_of_ble_eq_true rfl⟩ (q0 := 0) (ci := 8) rfl rfl rfl (Nat.le_of_ble_eq_true rfl) ⟨Nat.le_of_ble_eq_true rfl, Nat.le_of_ble_eq_true rfl⟩ ⟨Nat.le_of_ble_eq_true rfl, Nat.le_of_ble_eq_true rfl⟩ dX6_reviewerOf_2 (fun E w1 h => ⟨by rw [h.1.1, sp_reviewerOf, if_neg h.1.2], h.2⟩) (fun w1 hz9 => ?_)
  obtain ⟨⟨j0, h0, e0⟩, rfl⟩ := hz9
  subst e0
  have k0 : j0 < 2 ^ 31 := by omega
  have p0 : pIn (nI j0) (σ.1 3) := pIn_nI (by omega) h0
  refine zg_aload_n X dX6_reviewerOf_5 rfl ?_
  refine zg_iload_n X dX6_reviewerOf_6 rfl ?_
  refine zg_callVi X (k_X6_findReviewer l D ad T _ hI j0 h0) zFr.rf gX6_reviewerOf_X6_findReviewer rfl rfl rfl qv_X6_findReviewer rfl ⟨Nat.le_of_ble_eq_true rfl, Nat.le_of_ble_eq_true rfl⟩ (q0 := 0) (ci := 8) rfl rfl rfl (Nat.le_of_ble_eq_true rfl) ⟨Nat.le_of_ble_eq_true rfl, Nat.le_of_ble_eq_true rfl⟩ dX6_reviewerOf_7 (fun r w1 hz9 => ?_)
  obtain ⟨rfl, rfl⟩ := hz9
  exact zg_x (zg_iret X hr dX6_reviewerOf_10 (Nat.le_of_ble_eq_true rfl) (Nat.le_of_ble_eq_true rfl) (⟨σ, by simp only [sp_reviewerOf, if_pos p0, ix_nI k0], rfl⟩))

set_option maxHeartbeats 4000000 in
set_option maxRecDepth 100000 in
theorem k_X6_stateOf (l : Launch) (hfl : l.stackTraces = false) (D : va_G) (ad : Nat → Nat) (T : Nat → ClassId) (σ : ZS) (hI : zI σ) (hK : zK σ) (x : Int32) : zMX l yX6_stateOf wsX6_stateOf ({ frames := 7, cells := 1, slots := 6, locals := 111 }) D (zT T) [.ref (ad 0), .int x] (wC ad T σ) 1 6 (qI D (zT T) (fun v w => ∃ s, sp_stateOf σ x = .inr (v, s) ∧ w = wC ad T s)) (xE D (zT T) (fun E w => sp_stateOf σ x = .inl E ∧ w = wC ad T σ)) := by
  have hB0 := hI.bd
  obtain ⟨b0, b1, b2, b3, b4, b5⟩ := hI.bd
  refine zg_ofx (cc := cX6_stateOf) (maxL := 2) (ret := (some .char)) (by decide) rfl (Nat.le_of_ble_eq_true rfl) (fun p e s m below meth c A hno hr X => ?_)
  have X : zC p s m _ meth c cX6_stateOf 2 wsX6_stateOf RX6 D (zT T) A := X
  have f6 : ∀ w ∈ u_ws RX6 TX6 9, w ∈ wsX6_stateOf := by decide +kernel
  have f2 : ∀ w ∈ u_ws RX2 TX2 7, w ∈ wsX6_stateOf := by decide +kernel
  have l186 : Cond.fieldLink RX6 186 "Recertify$Grants" "states" "[C" ∈ wsX6_stateOf := by decide +kernel
  have l33 : Cond.fieldLink RX6 33 "Recertify" "grants" "LRecertify$Grants;" ∈ wsX6_stateOf := by decide +kernel
  refine zg_aload_n X dX6_stateOf_0 rfl ?_
  refine zg_iload_n X dX6_stateOf_1 rfl ?_
  refine zg_xcallVv X hno (k_X6_requireGrant l hfl D ad T _ hB0 _) zFr.rf gX6_stateOf_X6_requireGrant rfl rfl rfl qv_X6_requireGrant rfl ⟨Nat.le_of_ble_eq_true rfl, Nat.le_of_ble_eq_true rfl⟩ (q0 := 0) (ci := 8) rfl rfl rfl (Nat.le_of_ble_eq_true rfl) ⟨Nat.le_of_ble_eq_true rfl, Nat.le_of_ble_eq_true rfl⟩ ⟨Nat.le_of_ble_eq_true rfl, Nat.le_of_ble_eq_true rfl⟩ dX6_stateOf_2 (fun E w1 h => ⟨by rw [h.1.1, sp_stateOf, if_neg h.1.2], h.2⟩) (fun w1 hz9 => ?_)
  obtain ⟨⟨j0, h0, e0⟩, rfl⟩ := hz9
  subst e0
  have k0 : j0 < 2 ^ 31 := by omega
  have p0 : pIn (nI j0) (σ.1 3) := pIn_nI (by omega) h0
  refine zg_aload_n X dX6_stateOf_5 rfl ?_
  refine rg_R_grants X f6 l33 dX6_stateOf_6 ?_
  refine rg_Grants_states X f2 l186 dX6_stateOf_9 ?_
  refine zg_iload_n X dX6_stateOf_12 rfl ?_
  refine rlC_states X (by omega) dX6_stateOf_13 ?_
  exact zg_x (zg_nret X hr (hK.1 _) dX6_stateOf_14 (Nat.le_of_ble_eq_true rfl) (Nat.le_of_ble_eq_true rfl) (⟨σ, by simp only [sp_stateOf, if_pos p0, ix_nI k0], rfl⟩))

set_option maxHeartbeats 4000000 in
set_option maxRecDepth 100000 in
theorem k_X6_dueDay (l : Launch) (hfl : l.stackTraces = false) (D : va_G) (ad : Nat → Nat) (T : Nat → ClassId) (σ : ZS) (hI : zI σ) (x : Int32) : zMX l yX6_dueDay wsX6_dueDay ({ frames := 7, cells := 2, slots := 12, locals := 111 }) D (zT T) [.ref (ad 0), .int x] (wC ad T σ) 2 12 (qI D (zT T) (fun v w => ∃ s, sp_dueDay σ x = .inr (v, s) ∧ w = wC ad T s)) (xE D (zT T) (fun E w => sp_dueDay σ x = .inl E ∧ w = wC ad T σ)) := by
  have hB0 := hI.bd
  obtain ⟨b0, b1, b2, b3, b4, b5⟩ := hI.bd
  refine zg_ofx (cc := cX6_dueDay) (maxL := 2) (ret := (some .int)) (by decide) rfl (Nat.le_of_ble_eq_true rfl) (fun p e s m below meth c A hno hr X => ?_)
  have X : zC p s m _ meth c cX6_dueDay 2 wsX6_dueDay RX6 D (zT T) A := X
  have f6 : ∀ w ∈ u_ws RX6 TX6 9, w ∈ wsX6_dueDay := by decide +kernel
  have f2 : ∀ w ∈ u_ws RX2 TX2 7, w ∈ wsX6_dueDay := by decide +kernel
  have l186 : Cond.fieldLink RX6 186 "Recertify$Grants" "states" "[C" ∈ wsX6_dueDay := by decide +kernel
  have l192 : Cond.fieldLink RX6 192 "Recertify$Grants" "dueDays" "[I" ∈ wsX6_dueDay := by decide +kernel
  have l33 : Cond.fieldLink RX6 33 "Recertify" "grants" "LRecertify$Grants;" ∈ wsX6_dueDay := by decide +kernel
  have l75 : Cond.classLink RX6 75 "java/lang/IllegalStateException" ∈ wsX6_dueDay := by decide +kernel
  refine zg_aload_n X dX6_dueDay_0 rfl ?_
  refine zg_iload_n X dX6_dueDay_1 rfl ?_
  refine zg_xcallVv X hno (k_X6_requireGrant l hfl D ad T _ hB0 _) zFr.rf gX6_dueDay_X6_requireGrant rfl rfl rfl qv_X6_requireGrant rfl ⟨Nat.le_of_ble_eq_true rfl, Nat.le_of_ble_eq_true rfl⟩ (q0 := 0) (ci := 8) rfl rfl rfl (Nat.le_of_ble_eq_true rfl) ⟨Nat.le_of_ble_eq_true rfl, Nat.le_of_ble_eq_true rfl⟩ ⟨Nat.le_of_ble_eq_true rfl, Nat.le_of_ble_eq_true rfl⟩ dX6_dueDay_2 (fun E w1 h => ⟨by rw [h.1.1, sp_dueDay, if_neg h.1.2], h.2⟩) (fun w1 hz9 => ?_)
  obtain ⟨⟨j0, h0, e0⟩, rfl⟩ := hz9
  subst e0
  have k0 : j0 < 2 ^ 31 := by omega
  have p0 : pIn (nI j0) (σ.1 3) := pIn_nI (by omega) h0
  refine zg_aload_n X dX6_dueDay_5 rfl ?_
  refine rg_R_grants X f6 l33 dX6_dueDay_6 ?_
  refine rg_Grants_states X f2 l186 dX6_dueDay_9 ?_
  refine zg_iload_n X dX6_dueDay_12 rfl ?_
  refine rlC_states X (by omega) dX6_dueDay_13 ?_
  refine zg_bipush X (v := 119) dX6_dueDay_14 (by decide) ?_
  refine zg_icmp_eq X dX6_dueDay_16 (tgt := 29) (by decide) (fun c_16 => ?_) (fun c_16 => ?_)
  · skip
    refine zg_aload_n X dX6_dueDay_29 rfl ?_
    refine rg_R_grants X f6 l33 dX6_dueDay_30 ?_
    refine rg_Grants_dueDays X f2 l192 dX6_dueDay_33 ?_
    refine zg_iload_n X dX6_dueDay_36 rfl ?_
    refine rlC_due X (by omega) dX6_dueDay_37 ?_
    exact zg_x (zg_iret X hr dX6_dueDay_38 (Nat.le_of_ble_eq_true rfl) (Nat.le_of_ble_eq_true rfl) (⟨σ, by simp only [sp_dueDay, if_pos p0, ix_nI k0, if_pos c_16], rfl⟩))
  · skip
    exact zg_throw X hfl (text := "the grant does not wait for its end") hno tq_X6_79.1 tq_X6_79.2.1 l75 (by decide +kernel) (by decide +kernel) (fun w h => by have h : w ∈ (vx_atS RX6 79 "java/lang/IllegalStateException" ["java/lang/RuntimeException", "java/lang/Exception"]).filter goodWord := h; revert w; decide +kernel) tq_X6_79.2.2.1 (by decide +kernel) tq_X6_79.2.2.2 dX6_dueDay_19 dX6_dueDay_22 dX6_dueDay_23 dX6_dueDay_25 dX6_dueDay_28 ⟨Nat.le_of_ble_eq_true rfl, Nat.le_of_ble_eq_true rfl, Nat.le_of_ble_eq_true rfl, Nat.le_of_ble_eq_true rfl⟩ ⟨Nat.le_of_ble_eq_true rfl, Nat.le_of_ble_eq_true rfl⟩ (⟨by simp only [sp_dueDay, if_pos p0, ix_nI k0, if_neg c_16], rfl⟩)

set_option maxHeartbeats 4000000 in
set_option maxRecDepth 100000 in
theorem k_X6_lastUse (l : Launch) (hfl : l.stackTraces = false) (D : va_G) (ad : Nat → Nat) (T : Nat → ClassId) (σ : ZS) (hI : zI σ) (x : Int32) : zMX l yX6_lastUse wsX6_lastUse ({ frames := 7, cells := 1, slots := 6, locals := 111 }) D (zT T) [.ref (ad 0), .int x] (wC ad T σ) 1 6 (qI D (zT T) (fun v w => ∃ s, sp_lastUse σ x = .inr (v, s) ∧ w = wC ad T s)) (xE D (zT T) (fun E w => sp_lastUse σ x = .inl E ∧ w = wC ad T σ)) := by
  have hB0 := hI.bd
  obtain ⟨b0, b1, b2, b3, b4, b5⟩ := hI.bd
  refine zg_ofx (cc := cX6_lastUse) (maxL := 2) (ret := (some .int)) (by decide) rfl (Nat.le_of_ble_eq_true rfl) (fun p e s m below meth c A hno hr X => ?_)
  have X : zC p s m _ meth c cX6_lastUse 2 wsX6_lastUse RX6 D (zT T) A := X
  have f6 : ∀ w ∈ u_ws RX6 TX6 9, w ∈ wsX6_lastUse := by decide +kernel
  have f2 : ∀ w ∈ u_ws RX2 TX2 7, w ∈ wsX6_lastUse := by decide +kernel
  have l180 : Cond.fieldLink RX6 180 "Recertify$Grants" "lastUses" "[I" ∈ wsX6_lastUse := by decide +kernel
  have l33 : Cond.fieldLink RX6 33 "Recertify" "grants" "LRecertify$Grants;" ∈ wsX6_lastUse := by decide +kernel
  refine zg_aload_n X dX6_lastUse_0 rfl ?_
  refine zg_iload_n X dX6_lastUse_1 rfl ?_
  refine zg_xcallVv X hno (k_X6_requireGrant l hfl D ad T _ hB0 _) zFr.rf gX6_lastUse_X6_requireGrant rfl rfl rfl qv_X6_requireGrant rfl ⟨Nat.le_of_ble_eq_true rfl, Nat.le_of_ble_eq_true rfl⟩ (q0 := 0) (ci := 8) rfl rfl rfl (Nat.le_of_ble_eq_true rfl) ⟨Nat.le_of_ble_eq_true rfl, Nat.le_of_ble_eq_true rfl⟩ ⟨Nat.le_of_ble_eq_true rfl, Nat.le_of_ble_eq_true rfl⟩ dX6_lastUse_2 (fun E w1 h => ⟨by rw [h.1.1, sp_lastUse, if_neg h.1.2], h.2⟩) (fun w1 hz9 => ?_)
  obtain ⟨⟨j0, h0, e0⟩, rfl⟩ := hz9
  subst e0
  have k0 : j0 < 2 ^ 31 := by omega
  have p0 : pIn (nI j0) (σ.1 3) := pIn_nI (by omega) h0
  refine zg_aload_n X dX6_lastUse_5 rfl ?_
  refine rg_R_grants X f6 l33 dX6_lastUse_6 ?_
  refine rg_Grants_lastUses X f2 l180 dX6_lastUse_9 ?_
  refine zg_iload_n X dX6_lastUse_12 rfl ?_
  refine rlC_used X (by omega) dX6_lastUse_13 ?_
  exact zg_x (zg_iret X hr dX6_lastUse_14 (Nat.le_of_ble_eq_true rfl) (Nat.le_of_ble_eq_true rfl) (⟨σ, by simp only [sp_lastUse, if_pos p0, ix_nI k0], rfl⟩))

set_option maxHeartbeats 4000000 in
set_option maxRecDepth 100000 in
theorem k_X6_isBlocked (l : Launch) (hfl : l.stackTraces = false) (D : va_G) (ad : Nat → Nat) (T : Nat → ClassId) (σ : ZS) (hI : zI σ) (x : Int32) : zMX l yX6_isBlocked wsX6_isBlocked ({ frames := 7, cells := 1, slots := 6, locals := 112 }) D (zT T) [.ref (ad 0), .int x] (wC ad T σ) 1 6 (qI D (zT T) (fun v w => ∃ s, sp_isBlocked σ x = .inr (v, s) ∧ w = wC ad T s)) (xE D (zT T) (fun E w => sp_isBlocked σ x = .inl E ∧ w = wC ad T σ)) := by
  have hB0 := hI.bd
  obtain ⟨b0, b1, b2, b3, b4, b5⟩ := hI.bd
  refine zg_ofx (cc := cX6_isBlocked) (maxL := 2) (ret := (some .boolean)) (by decide) rfl (Nat.le_of_ble_eq_true rfl) (fun p e s m below meth c A hno hr X => ?_)
  have X : zC p s m _ meth c cX6_isBlocked 2 wsX6_isBlocked RX6 D (zT T) A := X
  have f6 : ∀ w ∈ u_ws RX6 TX6 9, w ∈ wsX6_isBlocked := by decide +kernel
  have f2 : ∀ w ∈ u_ws RX2 TX2 7, w ∈ wsX6_isBlocked := by decide +kernel
  have l186 : Cond.fieldLink RX6 186 "Recertify$Grants" "states" "[C" ∈ wsX6_isBlocked := by decide +kernel
  have l33 : Cond.fieldLink RX6 33 "Recertify" "grants" "LRecertify$Grants;" ∈ wsX6_isBlocked := by decide +kernel
  refine zg_aload_n X dX6_isBlocked_0 rfl ?_
  refine zg_iload_n X dX6_isBlocked_1 rfl ?_
  refine zg_xcallVv X hno (k_X6_requireGrant l hfl D ad T _ hB0 _) zFr.rf gX6_isBlocked_X6_requireGrant rfl rfl rfl qv_X6_requireGrant rfl ⟨Nat.le_of_ble_eq_true rfl, Nat.le_of_ble_eq_true rfl⟩ (q0 := 0) (ci := 8) rfl rfl rfl (Nat.le_of_ble_eq_true rfl) ⟨Nat.le_of_ble_eq_true rfl, Nat.le_of_ble_eq_true rfl⟩ ⟨Nat.le_of_ble_eq_true rfl, Nat.le_of_ble_eq_true rfl⟩ dX6_isBlocked_2 (fun E w1 h => ⟨by rw [h.1.1, sp_isBlocked, if_neg h.1.2], h.2⟩) (fun w1 hz9 => ?_)
  obtain ⟨⟨j0, h0, e0⟩, rfl⟩ := hz9
  subst e0
  have k0 : j0 < 2 ^ 31 := by omega
  have p0 : pIn (nI j0) (σ.1 3) := pIn_nI (by omega) h0
  refine zg_aload_n X dX6_isBlocked_5 rfl ?_
  refine rg_R_grants X f6 l33 dX6_isBlocked_6 ?_
  refine rg_Grants_states X f2 l186 dX6_isBlocked_9 ?_
  refine zg_iload_n X dX6_isBlocked_12 rfl ?_
  refine rlC_states X (by omega) dX6_isBlocked_13 ?_
  refine zg_bipush X (v := 120) dX6_isBlocked_14 (by decide) ?_
  refine zg_icmp_eq X dX6_isBlocked_16 (tgt := 31) (by decide) (fun c_16 => ?_) (fun c_16 => ?_)
  · skip
    refine zg_iconst X (v := 0) dX6_isBlocked_31 (by decide) ?_
    exact zg_x (zg_nret X hr (rfl) dX6_isBlocked_32 (Nat.le_of_ble_eq_true rfl) (Nat.le_of_ble_eq_true rfl) (⟨σ, by simp only [sp_isBlocked, if_pos p0, ix_nI k0, bI_f (show ¬ (¬ σ.2.2 11 j0 = 120 ∧ cutI σ j0) from fun q => q.1 c_16)], rfl⟩))
  · skip
    refine zg_aload_n X dX6_isBlocked_19 rfl ?_
    refine zg_iload_n X dX6_isBlocked_20 rfl ?_
    refine zg_callVi X (k_X6_wouldCutLastHolder l D ad T _ hI j0 h0) zFr.rf gX6_isBlocked_X6_wouldCutLastHolder rfl rfl rfl qv_X6_wouldCutLastHolder rfl ⟨Nat.le_of_ble_eq_true rfl, Nat.le_of_ble_eq_true rfl⟩ (q0 := 0) (ci := 8) rfl rfl rfl (Nat.le_of_ble_eq_true rfl) ⟨Nat.le_of_ble_eq_true rfl, Nat.le_of_ble_eq_true rfl⟩ dX6_isBlocked_21 (fun r w1 hz9 => ?_)
    obtain ⟨rfl, rfl⟩ := hz9
    refine zg_if_eqb X dX6_isBlocked_24 (tgt := 31) (by decide) (fun c_24 => ?_) (fun c_24 => ?_)
    · skip
      refine zg_iconst X (v := 0) dX6_isBlocked_31 (by decide) ?_
      exact zg_x (zg_nret X hr (rfl) dX6_isBlocked_32 (Nat.le_of_ble_eq_true rfl) (Nat.le_of_ble_eq_true rfl) (⟨σ, by simp only [sp_isBlocked, if_pos p0, ix_nI k0, bI_f (show ¬ (¬ σ.2.2 11 j0 = 120 ∧ cutI σ j0) from fun q => c_24 q.2)], rfl⟩))
    · skip
      refine zg_iconst X (v := 1) dX6_isBlocked_27 (by decide) ?_
      refine zg_goto X dX6_isBlocked_28 (tgt := 32) (by decide) ?_
      exact zg_x (zg_nret X hr (rfl) dX6_isBlocked_32 (Nat.le_of_ble_eq_true rfl) (Nat.le_of_ble_eq_true rfl) (⟨σ, by simp only [sp_isBlocked, if_pos p0, ix_nI k0, bI_t (show ¬ σ.2.2 11 j0 = 120 ∧ cutI σ j0 from ⟨c_16, c_24⟩)], rfl⟩))

set_option maxHeartbeats 4000000 in
set_option maxRecDepth 100000 in
theorem k_X6_grantOf (l : Launch) (hfl : l.stackTraces = false) (D : va_G) (ad : Nat → Nat) (T : Nat → ClassId) (σ : ZS) (hI : zI σ) (x : Int32) : zMX l yX6_grantOf wsX6_grantOf ({ frames := 7, cells := 1, slots := 6, locals := 111 }) D (zT T) [.ref (ad 0), .int x] (wC ad T σ) 1 6 (qI D (zT T) (fun v w => ∃ s, sp_grantOf σ x = .inr (v, s) ∧ w = wC ad T s)) (xE D (zT T) (fun E w => sp_grantOf σ x = .inl E ∧ w = wC ad T σ)) := by
  have hB0 := hI.bd
  obtain ⟨b0, b1, b2, b3, b4, b5⟩ := hI.bd
  refine zg_ofx (cc := cX6_grantOf) (maxL := 2) (ret := (some .int)) (by decide) rfl (Nat.le_of_ble_eq_true rfl) (fun p e s m below meth c A hno hr X => ?_)
  have X : zC p s m _ meth c cX6_grantOf 2 wsX6_grantOf RX6 D (zT T) A := X
  have f6 : ∀ w ∈ u_ws RX6 TX6 9, w ∈ wsX6_grantOf := by decide +kernel
  have f0 : ∀ w ∈ u_ws RX0 TX0 8, w ∈ wsX6_grantOf := by decide +kernel
  have l284 : Cond.fieldLink RX6 284 "Recertify$Campaign" "grants" "[I" ∈ wsX6_grantOf := by decide +kernel
  have l40 : Cond.fieldLink RX6 40 "Recertify" "campaign" "LRecertify$Campaign;" ∈ wsX6_grantOf := by decide +kernel
  refine zg_aload_n X dX6_grantOf_0 rfl ?_
  refine zg_iload_n X dX6_grantOf_1 rfl ?_
  refine zg_xcallVv X hno (k_X6_requireItem l hfl D ad T _ hB0 _) zFr.rf gX6_grantOf_X6_requireItem rfl rfl rfl qv_X6_requireItem rfl ⟨Nat.le_of_ble_eq_true rfl, Nat.le_of_ble_eq_true rfl⟩ (q0 := 0) (ci := 8) rfl rfl rfl (Nat.le_of_ble_eq_true rfl) ⟨Nat.le_of_ble_eq_true rfl, Nat.le_of_ble_eq_true rfl⟩ ⟨Nat.le_of_ble_eq_true rfl, Nat.le_of_ble_eq_true rfl⟩ dX6_grantOf_2 (fun E w1 h => ⟨by rw [h.1.1, sp_grantOf, if_neg h.1.2], h.2⟩) (fun w1 hz9 => ?_)
  obtain ⟨⟨j0, h0, e0⟩, rfl⟩ := hz9
  subst e0
  have k0 : j0 < 2 ^ 31 := by omega
  have p0 : pIn (nI j0) (σ.1 4) := pIn_nI (by omega) h0
  refine zg_aload_n X dX6_grantOf_5 rfl ?_
  refine rg_R_campaign X f6 l40 dX6_grantOf_6 ?_
  refine rg_Campaign_grants X f0 l284 dX6_grantOf_9 ?_
  refine zg_iload_n X dX6_grantOf_12 rfl ?_
  refine rlC_itemGrants X (by omega) dX6_grantOf_13 ?_
  exact zg_x (zg_iret X hr dX6_grantOf_14 (Nat.le_of_ble_eq_true rfl) (Nat.le_of_ble_eq_true rfl) (⟨σ, by simp only [sp_grantOf, if_pos p0, ix_nI k0], rfl⟩))

set_option maxHeartbeats 4000000 in
set_option maxRecDepth 100000 in
theorem k_X6_verdict (l : Launch) (hfl : l.stackTraces = false) (D : va_G) (ad : Nat → Nat) (T : Nat → ClassId) (σ : ZS) (hI : zI σ) (hK : zK σ) (x : Int32) : zMX l yX6_verdict wsX6_verdict ({ frames := 7, cells := 1, slots := 6, locals := 111 }) D (zT T) [.ref (ad 0), .int x] (wC ad T σ) 1 6 (qI D (zT T) (fun v w => ∃ s, sp_verdict σ x = .inr (v, s) ∧ w = wC ad T s)) (xE D (zT T) (fun E w => sp_verdict σ x = .inl E ∧ w = wC ad T σ)) := by
  have hB0 := hI.bd
  obtain ⟨b0, b1, b2, b3, b4, b5⟩ := hI.bd
  refine zg_ofx (cc := cX6_verdict) (maxL := 2) (ret := (some .char)) (by decide) rfl (Nat.le_of_ble_eq_true rfl) (fun p e s m below meth c A hno hr X => ?_)
  have X : zC p s m _ meth c cX6_verdict 2 wsX6_verdict RX6 D (zT T) A := X
  have f6 : ∀ w ∈ u_ws RX6 TX6 9, w ∈ wsX6_verdict := by decide +kernel
  have f0 : ∀ w ∈ u_ws RX0 TX0 8, w ∈ wsX6_verdict := by decide +kernel
  have l279 : Cond.fieldLink RX6 279 "Recertify$Campaign" "verdicts" "[C" ∈ wsX6_verdict := by decide +kernel
  have l40 : Cond.fieldLink RX6 40 "Recertify" "campaign" "LRecertify$Campaign;" ∈ wsX6_verdict := by decide +kernel
  refine zg_aload_n X dX6_verdict_0 rfl ?_
  refine zg_iload_n X dX6_verdict_1 rfl ?_
  refine zg_xcallVv X hno (k_X6_requireItem l hfl D ad T _ hB0 _) zFr.rf gX6_verdict_X6_requireItem rfl rfl rfl qv_X6_requireItem rfl ⟨Nat.le_of_ble_eq_true rfl, Nat.le_of_ble_eq_true rfl⟩ (q0 := 0) (ci := 8) rfl rfl rfl (Nat.le_of_ble_eq_true rfl) ⟨Nat.le_of_ble_eq_true rfl, Nat.le_of_ble_eq_true rfl⟩ ⟨Nat.le_of_ble_eq_true rfl, Nat.le_of_ble_eq_true rfl⟩ dX6_verdict_2 (fun E w1 h => ⟨by rw [h.1.1, sp_verdict, if_neg h.1.2], h.2⟩) (fun w1 hz9 => ?_)
  obtain ⟨⟨j0, h0, e0⟩, rfl⟩ := hz9
  subst e0
  have k0 : j0 < 2 ^ 31 := by omega
  have p0 : pIn (nI j0) (σ.1 4) := pIn_nI (by omega) h0
  refine zg_aload_n X dX6_verdict_5 rfl ?_
  refine rg_R_campaign X f6 l40 dX6_verdict_6 ?_
  refine rg_Campaign_verdicts X f0 l279 dX6_verdict_9 ?_
  refine zg_iload_n X dX6_verdict_12 rfl ?_
  refine rlC_verdicts X (by omega) dX6_verdict_13 ?_
  exact zg_x (zg_nret X hr (hK.2.1 _) dX6_verdict_14 (Nat.le_of_ble_eq_true rfl) (Nat.le_of_ble_eq_true rfl) (⟨σ, by simp only [sp_verdict, if_pos p0, ix_nI k0], rfl⟩))

set_option maxHeartbeats 4000000 in
set_option maxRecDepth 100000 in
theorem k_X6_decider (l : Launch) (hfl : l.stackTraces = false) (D : va_G) (ad : Nat → Nat) (T : Nat → ClassId) (σ : ZS) (hI : zI σ) (x : Int32) : zMX l yX6_decider wsX6_decider ({ frames := 7, cells := 2, slots := 12, locals := 111 }) D (zT T) [.ref (ad 0), .int x] (wC ad T σ) 2 12 (qI D (zT T) (fun v w => ∃ s, sp_decider σ x = .inr (v, s) ∧ w = wC ad T s)) (xE D (zT T) (fun E w => sp_decider σ x = .inl E ∧ w = wC ad T σ)) := by
  have hB0 := hI.bd
  obtain ⟨b0, b1, b2, b3, b4, b5⟩ := hI.bd
  refine zg_ofx (cc := cX6_decider) (maxL := 2) (ret := (some .int)) (by decide) rfl (Nat.le_of_ble_eq_true rfl) (fun p e s m below meth c A hno hr X => ?_)
  have X : zC p s m _ meth c cX6_decider 2 wsX6_decider RX6 D (zT T) A := X
  have f6 : ∀ w ∈ u_ws RX6 TX6 9, w ∈ wsX6_decider := by decide +kernel
  have f0 : ∀ w ∈ u_ws RX0 TX0 8, w ∈ wsX6_decider := by decide +kernel
  have l279 : Cond.fieldLink RX6 279 "Recertify$Campaign" "verdicts" "[C" ∈ wsX6_decider := by decide +kernel
  have l294 : Cond.fieldLink RX6 294 "Recertify$Campaign" "deciders" "[I" ∈ wsX6_decider := by decide +kernel
  have l40 : Cond.fieldLink RX6 40 "Recertify" "campaign" "LRecertify$Campaign;" ∈ wsX6_decider := by decide +kernel
  have l75 : Cond.classLink RX6 75 "java/lang/IllegalStateException" ∈ wsX6_decider := by decide +kernel
  refine zg_aload_n X dX6_decider_0 rfl ?_
  refine zg_iload_n X dX6_decider_1 rfl ?_
  refine zg_xcallVv X hno (k_X6_requireItem l hfl D ad T _ hB0 _) zFr.rf gX6_decider_X6_requireItem rfl rfl rfl qv_X6_requireItem rfl ⟨Nat.le_of_ble_eq_true rfl, Nat.le_of_ble_eq_true rfl⟩ (q0 := 0) (ci := 8) rfl rfl rfl (Nat.le_of_ble_eq_true rfl) ⟨Nat.le_of_ble_eq_true rfl, Nat.le_of_ble_eq_true rfl⟩ ⟨Nat.le_of_ble_eq_true rfl, Nat.le_of_ble_eq_true rfl⟩ dX6_decider_2 (fun E w1 h => ⟨by rw [h.1.1, sp_decider, if_neg h.1.2], h.2⟩) (fun w1 hz9 => ?_)
  obtain ⟨⟨j0, h0, e0⟩, rfl⟩ := hz9
  subst e0
  have k0 : j0 < 2 ^ 31 := by omega
  have p0 : pIn (nI j0) (σ.1 4) := pIn_nI (by omega) h0
  refine zg_aload_n X dX6_decider_5 rfl ?_
  refine rg_R_campaign X f6 l40 dX6_decider_6 ?_
  refine rg_Campaign_verdicts X f0 l279 dX6_decider_9 ?_
  refine zg_iload_n X dX6_decider_12 rfl ?_
  refine rlC_verdicts X (by omega) dX6_decider_13 ?_
  refine zg_bipush X (v := 117) dX6_decider_14 (by decide) ?_
  refine zg_icmp_ne X dX6_decider_16 (tgt := 30) (by decide) (fun c_16 => ?_) (fun c_16 => ?_)
  · skip
    refine zg_aload_n X dX6_decider_30 rfl ?_
    refine rg_R_campaign X f6 l40 dX6_decider_31 ?_
    refine rg_Campaign_deciders X f0 l294 dX6_decider_34 ?_
    refine zg_iload_n X dX6_decider_37 rfl ?_
    refine rlC_deciders X (by omega) dX6_decider_38 ?_
    exact zg_x (zg_iret X hr dX6_decider_39 (Nat.le_of_ble_eq_true rfl) (Nat.le_of_ble_eq_true rfl) (⟨σ, by simp only [sp_decider, if_pos p0, ix_nI k0, if_neg c_16], rfl⟩))
  · skip
    exact zg_throwW X hfl (text := "the item is undecided") hno tq_X6_79.1 tq_X6_79.2.1 l75 (by decide +kernel) (by decide +kernel) (fun w h => by have h : w ∈ (vx_atS RX6 79 "java/lang/IllegalStateException" ["java/lang/RuntimeException", "java/lang/Exception"]).filter goodWord := h; revert w; decide +kernel) tq_X6_79.2.2.1 (by decide +kernel) tq_X6_79.2.2.2 dX6_decider_19 dX6_decider_22 dX6_decider_23 dX6_decider_26 dX6_decider_29 ⟨Nat.le_of_ble_eq_true rfl, Nat.le_of_ble_eq_true rfl, Nat.le_of_ble_eq_true rfl, Nat.le_of_ble_eq_true rfl⟩ ⟨Nat.le_of_ble_eq_true rfl, Nat.le_of_ble_eq_true rfl⟩ (⟨by simp only [sp_decider, if_pos p0, ix_nI k0, if_pos c_16], rfl⟩)

set_option maxHeartbeats 4000000 in
set_option maxRecDepth 100000 in
theorem k_X6_signAt (l : Launch) (hfl : l.stackTraces = false) (D : va_G) (ad : Nat → Nat) (T : Nat → ClassId) (σ : ZS) (hI : zI σ) (hK : zK σ) (x : Int32) : zMX l yX6_signAt wsX6_signAt ({ frames := 7, cells := 1, slots := 6, locals := 111 }) D (zT T) [.ref (ad 0), .int x] (wC ad T σ) 1 6 (qI D (zT T) (fun v w => ∃ s, sp_signAt σ x = .inr (v, s) ∧ w = wC ad T s)) (xE D (zT T) (fun E w => sp_signAt σ x = .inl E ∧ w = wC ad T σ)) := by
  have hB0 := hI.bd
  obtain ⟨b0, b1, b2, b3, b4, b5⟩ := hI.bd
  refine zg_ofx (cc := cX6_signAt) (maxL := 2) (ret := (some .char)) (by decide) rfl (Nat.le_of_ble_eq_true rfl) (fun p e s m below meth c A hno hr X => ?_)
  have X : zC p s m _ meth c cX6_signAt 2 wsX6_signAt RX6 D (zT T) A := X
  have f6 : ∀ w ∈ u_ws RX6 TX6 9, w ∈ wsX6_signAt := by decide +kernel
  have f1 : ∀ w ∈ u_ws RX1 TX1 5, w ∈ wsX6_signAt := by decide +kernel
  have l311 : Cond.fieldLink RX6 311 "Recertify$Evidence" "signs" "[C" ∈ wsX6_signAt := by decide +kernel
  have l47 : Cond.fieldLink RX6 47 "Recertify" "evidence" "LRecertify$Evidence;" ∈ wsX6_signAt := by decide +kernel
  refine zg_aload_n X dX6_signAt_0 rfl ?_
  refine zg_iload_n X dX6_signAt_1 rfl ?_
  refine zg_xcallVv X hno (k_X6_requireEntry l hfl D ad T _ hB0 _) zFr.rf gX6_signAt_X6_requireEntry rfl rfl rfl qv_X6_requireEntry rfl ⟨Nat.le_of_ble_eq_true rfl, Nat.le_of_ble_eq_true rfl⟩ (q0 := 0) (ci := 8) rfl rfl rfl (Nat.le_of_ble_eq_true rfl) ⟨Nat.le_of_ble_eq_true rfl, Nat.le_of_ble_eq_true rfl⟩ ⟨Nat.le_of_ble_eq_true rfl, Nat.le_of_ble_eq_true rfl⟩ dX6_signAt_2 (fun E w1 h => ⟨by rw [h.1.1, sp_signAt, if_neg h.1.2], h.2⟩) (fun w1 hz9 => ?_)
  obtain ⟨⟨j0, h0, e0⟩, rfl⟩ := hz9
  subst e0
  have k0 : j0 < 2 ^ 31 := by omega
  have p0 : pIn (nI j0) (σ.1 5) := pIn_nI (by omega) h0
  refine zg_aload_n X dX6_signAt_5 rfl ?_
  refine rg_R_evidence X f6 l47 dX6_signAt_6 ?_
  refine rg_Evidence_signs X f1 l311 dX6_signAt_9 ?_
  refine zg_iload_n X dX6_signAt_12 rfl ?_
  refine rlC_signs X (by omega) dX6_signAt_13 ?_
  exact zg_x (zg_nret X hr (hK.2.2.1 _) dX6_signAt_14 (Nat.le_of_ble_eq_true rfl) (Nat.le_of_ble_eq_true rfl) (⟨σ, by simp only [sp_signAt, if_pos p0, ix_nI k0], rfl⟩))

set_option maxHeartbeats 4000000 in
set_option maxRecDepth 100000 in
theorem k_X6_sealAt (l : Launch) (hfl : l.stackTraces = false) (D : va_G) (ad : Nat → Nat) (T : Nat → ClassId) (σ : ZS) (hI : zI σ) (x : Int32) : zMX l yX6_sealAt wsX6_sealAt ({ frames := 7, cells := 1, slots := 6, locals := 111 }) D (zT T) [.ref (ad 0), .int x] (wC ad T σ) 1 6 (qI D (zT T) (fun v w => ∃ s, sp_sealAt σ x = .inr (v, s) ∧ w = wC ad T s)) (xE D (zT T) (fun E w => sp_sealAt σ x = .inl E ∧ w = wC ad T σ)) := by
  have hB0 := hI.bd
  obtain ⟨b0, b1, b2, b3, b4, b5⟩ := hI.bd
  refine zg_ofx (cc := cX6_sealAt) (maxL := 2) (ret := (some .int)) (by decide) rfl (Nat.le_of_ble_eq_true rfl) (fun p e s m below meth c A hno hr X => ?_)
  have X : zC p s m _ meth c cX6_sealAt 2 wsX6_sealAt RX6 D (zT T) A := X
  have f6 : ∀ w ∈ u_ws RX6 TX6 9, w ∈ wsX6_sealAt := by decide +kernel
  have f1 : ∀ w ∈ u_ws RX1 TX1 5, w ∈ wsX6_sealAt := by decide +kernel
  have l314 : Cond.fieldLink RX6 314 "Recertify$Evidence" "seals" "[I" ∈ wsX6_sealAt := by decide +kernel
  have l47 : Cond.fieldLink RX6 47 "Recertify" "evidence" "LRecertify$Evidence;" ∈ wsX6_sealAt := by decide +kernel
  refine zg_aload_n X dX6_sealAt_0 rfl ?_
  refine zg_iload_n X dX6_sealAt_1 rfl ?_
  refine zg_xcallVv X hno (k_X6_requireEntry l hfl D ad T _ hB0 _) zFr.rf gX6_sealAt_X6_requireEntry rfl rfl rfl qv_X6_requireEntry rfl ⟨Nat.le_of_ble_eq_true rfl, Nat.le_of_ble_eq_true rfl⟩ (q0 := 0) (ci := 8) rfl rfl rfl (Nat.le_of_ble_eq_true rfl) ⟨Nat.le_of_ble_eq_true rfl, Nat.le_of_ble_eq_true rfl⟩ ⟨Nat.le_of_ble_eq_true rfl, Nat.le_of_ble_eq_true rfl⟩ dX6_sealAt_2 (fun E w1 h => ⟨by rw [h.1.1, sp_sealAt, if_neg h.1.2], h.2⟩) (fun w1 hz9 => ?_)
  obtain ⟨⟨j0, h0, e0⟩, rfl⟩ := hz9
  subst e0
  have k0 : j0 < 2 ^ 31 := by omega
  have p0 : pIn (nI j0) (σ.1 5) := pIn_nI (by omega) h0
  refine zg_aload_n X dX6_sealAt_5 rfl ?_
  refine rg_R_evidence X f6 l47 dX6_sealAt_6 ?_
  refine rg_Evidence_seals X f1 l314 dX6_sealAt_9 ?_
  refine zg_iload_n X dX6_sealAt_12 rfl ?_
  refine rlC_seals X (by omega) dX6_sealAt_13 ?_
  exact zg_x (zg_iret X hr dX6_sealAt_14 (Nat.le_of_ble_eq_true rfl) (Nat.le_of_ble_eq_true rfl) (⟨σ, by simp only [sp_sealAt, if_pos p0, ix_nI k0], rfl⟩))

set_option maxHeartbeats 4000000 in
set_option maxRecDepth 100000 in
theorem k_X6_sealByReplay (l : Launch) (hfl : l.stackTraces = false) (D : va_G) (ad : Nat → Nat) (T : Nat → ClassId) (σ : ZS) (hI : zI σ) (x : Int32) : zMX l yX6_sealByReplay wsX6_sealByReplay ({ frames := 7, cells := 1, slots := 6, locals := 111 }) D (zT T) [.ref (ad 0), .int x] (wC ad T σ) 1 6 (qI D (zT T) (fun v w => ∃ s, sp_sealByReplay σ x = .inr (v, s) ∧ w = wC ad T s)) (xE D (zT T) (fun E w => sp_sealByReplay σ x = .inl E ∧ w = wC ad T σ)) := by
  have hB0 := hI.bd
  obtain ⟨b0, b1, b2, b3, b4, b5⟩ := hI.bd
  refine zg_ofx (cc := cX6_sealByReplay) (maxL := 2) (ret := (some .int)) (by decide) rfl (Nat.le_of_ble_eq_true rfl) (fun p e s m below meth c A hno hr X => ?_)
  have X : zC p s m _ meth c cX6_sealByReplay 2 wsX6_sealByReplay RX6 D (zT T) A := X
  have f6 : ∀ w ∈ u_ws RX6 TX6 9, w ∈ wsX6_sealByReplay := by decide +kernel
  have l47 : Cond.fieldLink RX6 47 "Recertify" "evidence" "LRecertify$Evidence;" ∈ wsX6_sealByReplay := by decide +kernel
  refine zg_aload_n X dX6_sealByReplay_0 rfl ?_
  refine zg_iload_n X dX6_sealByReplay_1 rfl ?_
  refine zg_xcallVv X hno (k_X6_requireEntry l hfl D ad T _ hB0 _) zFr.rf gX6_sealByReplay_X6_requireEntry rfl rfl rfl qv_X6_requireEntry rfl ⟨Nat.le_of_ble_eq_true rfl, Nat.le_of_ble_eq_true rfl⟩ (q0 := 0) (ci := 8) rfl rfl rfl (Nat.le_of_ble_eq_true rfl) ⟨Nat.le_of_ble_eq_true rfl, Nat.le_of_ble_eq_true rfl⟩ ⟨Nat.le_of_ble_eq_true rfl, Nat.le_of_ble_eq_true rfl⟩ dX6_sealByReplay_2 (fun E w1 h => ⟨by rw [h.1.1, sp_sealByReplay, if_neg h.1.2], h.2⟩) (fun w1 hz9 => ?_)
  obtain ⟨⟨j0, h0, e0⟩, rfl⟩ := hz9
  subst e0
  have k0 : j0 < 2 ^ 31 := by omega
  have p0 : pIn (nI j0) (σ.1 5) := pIn_nI (by omega) h0
  refine zg_aload_n X dX6_sealByReplay_5 rfl ?_
  refine rg_R_evidence X f6 l47 dX6_sealByReplay_6 ?_
  refine zg_iload_n X dX6_sealByReplay_9 rfl ?_
  refine zg_callVi X (k_X1_replay l D ad T _ hB0 j0 h0) zFr.rf gX6_sealByReplay_X1_replay rfl rfl rfl qv_X1_replay rfl ⟨Nat.le_of_ble_eq_true rfl, Nat.le_of_ble_eq_true rfl⟩ (q0 := 6) (ci := 3) rfl rfl rfl (Nat.le_of_ble_eq_true rfl) ⟨Nat.le_of_ble_eq_true rfl, Nat.le_of_ble_eq_true rfl⟩ dX6_sealByReplay_10 (fun r w1 hz9 => ?_)
  obtain ⟨rfl, rfl⟩ := hz9
  exact zg_x (zg_iret X hr dX6_sealByReplay_13 (Nat.le_of_ble_eq_true rfl) (Nat.le_of_ble_eq_true rfl) (⟨σ, by simp only [sp_sealByReplay, if_pos p0, ix_nI k0], rfl⟩))

set_option maxHeartbeats 4000000 in
set_option maxRecDepth 100000 in
theorem k_X6_nextItem (l : Launch) (hfl : l.stackTraces = false) (D : va_G) (ad : Nat → Nat) (T : Nat → ClassId) (σ : ZS) (hI : zI σ) (x : Int32) : zMX l yX6_nextItem wsX6_nextItem ({ frames := 7, cells := 2, slots := 12, locals := 114 }) D (zT T) [.ref (ad 0), .int x] (wC ad T σ) 2 12 (qI D (zT T) (fun v w => ∃ s, sp_nextItem σ x = .inr (v, s) ∧ w = wC ad T s)) (xE D (zT T) (fun E w => sp_nextItem σ x = .inl E ∧ w = wC ad T σ)) := by
  have hB0 := hI.bd
  obtain ⟨b0, b1, b2, b3, b4, b5⟩ := hI.bd
  refine zg_ofx (cc := cX6_nextItem) (maxL := 7) (ret := (some .int)) (by decide) rfl (Nat.le_of_ble_eq_true rfl) (fun p e s m below meth c A hno hr X => ?_)
  have X : zC p s m _ meth c cX6_nextItem 7 wsX6_nextItem RX6 D (zT T) A := X
  have f6 : ∀ w ∈ u_ws RX6 TX6 9, w ∈ wsX6_nextItem := by decide +kernel
  have f0 : ∀ w ∈ u_ws RX0 TX0 8, w ∈ wsX6_nextItem := by decide +kernel
  have l271 : Cond.fieldLink RX6 271 "Recertify$Campaign" "count" "I" ∈ wsX6_nextItem := by decide +kernel
  have l279 : Cond.fieldLink RX6 279 "Recertify$Campaign" "verdicts" "[C" ∈ wsX6_nextItem := by decide +kernel
  have l284 : Cond.fieldLink RX6 284 "Recertify$Campaign" "grants" "[I" ∈ wsX6_nextItem := by decide +kernel
  have l40 : Cond.fieldLink RX6 40 "Recertify" "campaign" "LRecertify$Campaign;" ∈ wsX6_nextItem := by decide +kernel
  have l75 : Cond.classLink RX6 75 "java/lang/IllegalStateException" ∈ wsX6_nextItem := by decide +kernel
  refine zg_aload_n X dX6_nextItem_0 rfl ?_
  refine zg_iload_n X dX6_nextItem_1 rfl ?_
  refine zg_xcallVv X hno (k_X6_requirePerson l hfl D ad T _ hB0 _) zFr.rf gX6_nextItem_X6_requirePerson rfl rfl rfl qv_X6_requirePerson rfl ⟨Nat.le_of_ble_eq_true rfl, Nat.le_of_ble_eq_true rfl⟩ (q0 := 0) (ci := 8) rfl rfl rfl (Nat.le_of_ble_eq_true rfl) ⟨Nat.le_of_ble_eq_true rfl, Nat.le_of_ble_eq_true rfl⟩ ⟨Nat.le_of_ble_eq_true rfl, Nat.le_of_ble_eq_true rfl⟩ dX6_nextItem_2 (fun E w1 h => ⟨by rw [h.1.1, sp_nextItem, if_neg h.1.2], h.2⟩) (fun w1 hz9 => ?_)
  obtain ⟨⟨j0, h0, e0⟩, rfl⟩ := hz9
  subst e0
  have k0 : j0 < 2 ^ 31 := by omega
  have p0 : pIn (nI j0) (σ.1 0) := pIn_nI (by omega) h0
  refine zg_iconst X (v := (-1)) dX6_nextItem_5 (by decide) ?_
  refine zg_istore_n X dX6_nextItem_6 (by decide) ?_
  refine zg_iconst X (v := 0) dX6_nextItem_7 (by decide) ?_
  refine zg_istore_n X dX6_nextItem_8 (by decide) ?_
  refine zg_iconst X (v := 0) dX6_nextItem_9 (by decide) ?_
  refine zg_istore X dX6_nextItem_10 (by decide) ?_
  have LP12 : ∀ (fu : Nat) (i : Nat) (nx0 : Int32) (gr0 : Int32), σ.1 4 + 1 ≤ i + fu → i ≤ σ.1 4 → (nx0, gr0) = fN (nxF σ (nI j0)) (-1, 0) i → zG p l e (headSpec wsX6_nextItem ({ frames := 7, cells := 2, slots := 12, locals := 114 })).room s m [.ref (ad 0), .int (nI j0)].toArray below meth c D 7 A 1 6 (vx_MQ below (qI D (zT T) (fun v w => ∃ s, sp_nextItem σ (nI j0) = .inr (v, s) ∧ w = wC ad T s) A) (xE D (zT T) (fun E w => sp_nextItem σ (nI j0) = .inl E ∧ w = wC ad T σ) A) [.ref (ad 0), .int (nI j0)].toArray s 2 12 A) (wC ad T σ) 12 [(0, .ref (ad 0)), (1, .int (nI j0)), (2, .int nx0), (3, .int gr0), (4, .int (nI i))] [] := by
    intro fu
    induction fu with
    | zero => intro i nx0 gr0 hfu hii _; exact absurd hfu (by omega)
    | succ fu ih12 =>
      intro i nx0 gr0 hfu hii hb
      refine zg_iload X dX6_nextItem_12 rfl ?_
      refine zg_aload_n X dX6_nextItem_14 rfl ?_
      refine rg_R_campaign X f6 l40 dX6_nextItem_15 ?_
      refine rg_Campaign_count X f0 l271 dX6_nextItem_18 ?_
      refine zg_icmpn_ge X dX6_nextItem_21 (tgt := 92) (by decide) (a := i) (b := σ.1 4) (by omega) (by omega) (fun c_21 => ?_) (fun c_21 => ?_)
      · skip
        refine zg_iload_n X dX6_nextItem_92 rfl ?_
        refine zg_iconst X (v := (-1)) dX6_nextItem_93 (by decide) ?_
        refine zg_icmp_ne X dX6_nextItem_94 (tgt := 108) (by decide) (fun c_94 => ?_) (fun c_94 => ?_)
        · skip
          refine zg_iload_n X dX6_nextItem_108 rfl ?_
          exact zg_x (zg_iret X hr dX6_nextItem_109 (Nat.le_of_ble_eq_true rfl) (Nat.le_of_ble_eq_true rfl) (⟨σ, by rw [sp_nextItem, if_pos p0, nxI, show σ.1 4 = i by omega, ← hb, if_neg c_94], rfl⟩))
        · skip
          exact zg_throwW X hfl (text := "there is no item for the person to answer") hno tq_X6_79.1 tq_X6_79.2.1 l75 (by decide +kernel) (by decide +kernel) (fun w h => by have h : w ∈ (vx_atS RX6 79 "java/lang/IllegalStateException" ["java/lang/RuntimeException", "java/lang/Exception"]).filter goodWord := h; revert w; decide +kernel) tq_X6_79.2.2.1 (by decide +kernel) tq_X6_79.2.2.2 dX6_nextItem_97 dX6_nextItem_100 dX6_nextItem_101 dX6_nextItem_104 dX6_nextItem_107 ⟨Nat.le_of_ble_eq_true rfl, Nat.le_of_ble_eq_true rfl, Nat.le_of_ble_eq_true rfl, Nat.le_of_ble_eq_true rfl⟩ ⟨Nat.le_of_ble_eq_true rfl, Nat.le_of_ble_eq_true rfl⟩ (⟨by rw [sp_nextItem, if_pos p0, nxI, show σ.1 4 = i by omega, ← hb, if_pos c_94], rfl⟩)
      · skip
        refine zg_aload_n X dX6_nextItem_24 rfl ?_
        refine rg_R_campaign X f6 l40 dX6_nextItem_25 ?_
        refine rg_Campaign_grants X f0 l284 dX6_nextItem_28 ?_
        refine zg_iload X dX6_nextItem_31 rfl ?_
        refine rlC_itemGrants X (by omega) dX6_nextItem_33 ?_
        obtain ⟨g0, hg0, eg⟩ := hI.itm i (by omega)
        have hg31 : g0 < 2 ^ 31 := by omega
        refine zg_top eg ?_
        refine zg_istore X dX6_nextItem_34 (by decide) ?_
        refine zg_aload_n X dX6_nextItem_36 rfl ?_
        refine rg_R_campaign X f6 l40 dX6_nextItem_37 ?_
        refine rg_Campaign_verdicts X f0 l279 dX6_nextItem_40 ?_
        refine zg_iload X dX6_nextItem_43 rfl ?_
        refine rlC_verdicts X (by omega) dX6_nextItem_45 ?_
        refine zg_bipush X (v := 117) dX6_nextItem_46 (by decide) ?_
        refine zg_icmp_ne X dX6_nextItem_48 (tgt := 86) (by decide) (fun c_48 => ?_) (fun c_48 => ?_)
        · skip
          refine zg_iinc1 X dX6_nextItem_86 (by decide) rfl ?_
          refine zg_goto X dX6_nextItem_89 (tgt := 12) (by decide) ?_
          exact zg_lv (by exact ⟨rfl, rfl, rfl, rfl, rfl, trivial⟩) (ih12 (i + 1) _ _ (by omega) (by omega) (by rw [fN, ← hb, nxF]; exact (if_neg (fun h => c_48 h.1)).symm))
        · skip
          refine zg_aload_n X dX6_nextItem_51 rfl ?_
          refine zg_iload X dX6_nextItem_52 rfl ?_
          refine zg_callVi X (k_X6_findReviewer l D ad T _ hI g0 hg0) zFr.rf gX6_nextItem_X6_findReviewer rfl rfl rfl qv_X6_findReviewer rfl ⟨Nat.le_of_ble_eq_true rfl, Nat.le_of_ble_eq_true rfl⟩ (q0 := 0) (ci := 8) rfl rfl rfl (Nat.le_of_ble_eq_true rfl) ⟨Nat.le_of_ble_eq_true rfl, Nat.le_of_ble_eq_true rfl⟩ dX6_nextItem_54 (fun r w1 hz9 => ?_)
          obtain ⟨rfl, rfl⟩ := hz9
          refine zg_iload_n X dX6_nextItem_57 rfl ?_
          refine zg_icmp_ne X dX6_nextItem_58 (tgt := 86) (by decide) (fun c_58 => ?_) (fun c_58 => ?_)
          · skip
            refine zg_iinc1 X dX6_nextItem_86 (by decide) rfl ?_
            refine zg_goto X dX6_nextItem_89 (tgt := 12) (by decide) ?_
            exact zg_lv (by exact ⟨rfl, rfl, rfl, rfl, rfl, trivial⟩) (ih12 (i + 1) _ _ (by omega) (by omega) (by rw [fN, ← hb, nxF, eg, ix_nI hg31]; exact (if_neg (fun h => c_58 h.2)).symm))
          · skip
            refine zg_aload_n X dX6_nextItem_61 rfl ?_
            refine zg_iload X dX6_nextItem_62 rfl ?_
            refine zg_callVi X (k_X6_rateGrant l D ad T _ hI g0 hg0) zFr.rf gX6_nextItem_X6_rateGrant rfl rfl rfl qv_X6_rateGrant rfl ⟨Nat.le_of_ble_eq_true rfl, Nat.le_of_ble_eq_true rfl⟩ (q0 := 0) (ci := 8) rfl rfl rfl (Nat.le_of_ble_eq_true rfl) ⟨Nat.le_of_ble_eq_true rfl, Nat.le_of_ble_eq_true rfl⟩ dX6_nextItem_64 (fun r w1 hz9 => ?_)
            obtain ⟨rfl, rfl⟩ := hz9
            refine zg_istore X dX6_nextItem_67 (by decide) ?_
            refine zg_iload_n X dX6_nextItem_69 rfl ?_
            refine zg_iconst X (v := (-1)) dX6_nextItem_70 (by decide) ?_
            refine zg_icmp_eq X dX6_nextItem_71 (tgt := 80) (by decide) (fun c_71 => ?_) (fun c_71 => ?_)
            · skip
              refine zg_iload X dX6_nextItem_80 rfl ?_
              refine zg_istore_n X dX6_nextItem_82 (by decide) ?_
              refine zg_iload X dX6_nextItem_83 rfl ?_
              refine zg_istore_n X dX6_nextItem_85 (by decide) ?_
              refine zg_iinc1 X dX6_nextItem_86 (by decide) rfl ?_
              refine zg_goto X dX6_nextItem_89 (tgt := 12) (by decide) ?_
              exact zg_lv (by exact ⟨rfl, rfl, rfl, rfl, rfl, trivial⟩) (ih12 (i + 1) _ _ (by omega) (by omega) (by rw [fN, ← hb, nxF, eg, ix_nI hg31, if_pos ⟨c_48, c_58⟩]; exact (if_pos (Or.inl c_71)).symm))
            · skip
              refine zg_iload X dX6_nextItem_74 rfl ?_
              refine zg_iload_n X dX6_nextItem_76 rfl ?_
              refine zg_icmp_le X dX6_nextItem_77 (tgt := 86) (by decide) (fun c_77 => ?_) (fun c_77 => ?_)
              · skip
                refine zg_iinc1 X dX6_nextItem_86 (by decide) rfl ?_
                refine zg_goto X dX6_nextItem_89 (tgt := 12) (by decide) ?_
                exact zg_lv (by exact ⟨rfl, rfl, rfl, rfl, rfl, trivial⟩) (ih12 (i + 1) _ _ (by omega) (by omega) (by rw [fN, ← hb, nxF, eg, ix_nI hg31, if_pos ⟨c_48, c_58⟩]; exact (if_neg (fun h => h.elim c_71 (fun q => zi_lt.mp q c_77))).symm))
              · skip
                refine zg_iload X dX6_nextItem_80 rfl ?_
                refine zg_istore_n X dX6_nextItem_82 (by decide) ?_
                refine zg_iload X dX6_nextItem_83 rfl ?_
                refine zg_istore_n X dX6_nextItem_85 (by decide) ?_
                refine zg_iinc1 X dX6_nextItem_86 (by decide) rfl ?_
                refine zg_goto X dX6_nextItem_89 (tgt := 12) (by decide) ?_
                exact zg_lv (by exact ⟨rfl, rfl, rfl, rfl, rfl, trivial⟩) (ih12 (i + 1) _ _ (by omega) (by omega) (by rw [fN, ← hb, nxF, eg, ix_nI hg31, if_pos ⟨c_48, c_58⟩]; exact (if_pos (Or.inr (zi_lt.mpr c_77))).symm))
  exact zg_lv (by exact ⟨rfl, rfl, rfl, rfl, rfl, trivial⟩) (LP12 (σ.1 4 + 1) 0 _ _ (by omega) (by omega) rfl)

set_option maxHeartbeats 4000000 in
set_option maxRecDepth 100000 in
theorem k_X6_people (l : Launch) (D : va_G) (ad : Nat → Nat) (T : Nat → ClassId) (σ : ZS)  : zM l yX6_people wsX6_people ({ frames := 0, cells := 0, slots := 0, locals := 0 }) D (zT T) [.ref (ad 0)] (wC ad T σ) 0 0 (qI D (zT T) (fun v0 w => v0 = nI (σ.1 0) ∧ w = wC ad T σ)) := by
  refine zg_of (cc := cX6_people) (maxL := 1) (ret := (some .int)) (by decide) rfl (Nat.le_of_ble_eq_true rfl) (fun p e s m below meth c A hin hr X => ?_)
  have X : zC p s m _ meth c cX6_people 1 wsX6_people RX6 D (zT T) A := X
  have f6 : ∀ w ∈ u_ws RX6 TX6 9, w ∈ wsX6_people := by decide +kernel
  have f4 : ∀ w ∈ u_ws RX4 TX4 5, w ∈ wsX6_people := by decide +kernel
  have l10 : Cond.fieldLink RX6 10 "Recertify" "people" "LRecertify$People;" ∈ wsX6_people := by decide +kernel
  have l72 : Cond.fieldLink RX6 72 "Recertify$People" "count" "I" ∈ wsX6_people := by decide +kernel
  refine zg_aload_n X dX6_people_0 rfl ?_
  refine rg_R_people X f6 l10 dX6_people_1 ?_
  refine rg_People_count X f4 l72 dX6_people_4 ?_
  exact zg_iret X hr dX6_people_7 (Nat.le_of_ble_eq_true rfl) (Nat.le_of_ble_eq_true rfl) (⟨rfl, rfl⟩)

set_option maxHeartbeats 4000000 in
set_option maxRecDepth 100000 in
theorem k_X6_grants (l : Launch) (D : va_G) (ad : Nat → Nat) (T : Nat → ClassId) (σ : ZS)  : zM l yX6_grants wsX6_grants ({ frames := 0, cells := 0, slots := 0, locals := 0 }) D (zT T) [.ref (ad 0)] (wC ad T σ) 0 0 (qI D (zT T) (fun v0 w => v0 = nI (σ.1 3) ∧ w = wC ad T σ)) := by
  refine zg_of (cc := cX6_grants) (maxL := 1) (ret := (some .int)) (by decide) rfl (Nat.le_of_ble_eq_true rfl) (fun p e s m below meth c A hin hr X => ?_)
  have X : zC p s m _ meth c cX6_grants 1 wsX6_grants RX6 D (zT T) A := X
  have f6 : ∀ w ∈ u_ws RX6 TX6 9, w ∈ wsX6_grants := by decide +kernel
  have f2 : ∀ w ∈ u_ws RX2 TX2 7, w ∈ wsX6_grants := by decide +kernel
  have l173 : Cond.fieldLink RX6 173 "Recertify$Grants" "count" "I" ∈ wsX6_grants := by decide +kernel
  have l33 : Cond.fieldLink RX6 33 "Recertify" "grants" "LRecertify$Grants;" ∈ wsX6_grants := by decide +kernel
  refine zg_aload_n X dX6_grants_0 rfl ?_
  refine rg_R_grants X f6 l33 dX6_grants_1 ?_
  refine rg_Grants_count X f2 l173 dX6_grants_4 ?_
  exact zg_iret X hr dX6_grants_7 (Nat.le_of_ble_eq_true rfl) (Nat.le_of_ble_eq_true rfl) (⟨rfl, rfl⟩)

set_option maxHeartbeats 4000000 in
set_option maxRecDepth 100000 in
theorem k_X6_day (l : Launch) (D : va_G) (ad : Nat → Nat) (T : Nat → ClassId) (σ : ZS)  : zM l yX6_day wsX6_day ({ frames := 0, cells := 0, slots := 0, locals := 0 }) D (zT T) [.ref (ad 0)] (wC ad T σ) 0 0 (qI D (zT T) (fun v0 w => v0 = σ.2.1 0 ∧ w = wC ad T σ)) := by
  refine zg_of (cc := cX6_day) (maxL := 1) (ret := (some .int)) (by decide) rfl (Nat.le_of_ble_eq_true rfl) (fun p e s m below meth c A hin hr X => ?_)
  have X : zC p s m _ meth c cX6_day 1 wsX6_day RX6 D (zT T) A := X
  have f6 : ∀ w ∈ u_ws RX6 TX6 9, w ∈ wsX6_day := by decide +kernel
  have l51 : Cond.fieldLink RX6 51 "Recertify" "day" "I" ∈ wsX6_day := by decide +kernel
  refine zg_aload_n X dX6_day_0 rfl ?_
  refine rg_R_day X f6 l51 dX6_day_1 ?_
  exact zg_iret X hr dX6_day_4 (Nat.le_of_ble_eq_true rfl) (Nat.le_of_ble_eq_true rfl) (⟨rfl, rfl⟩)

set_option maxHeartbeats 4000000 in
set_option maxRecDepth 100000 in
theorem k_X6_items (l : Launch) (D : va_G) (ad : Nat → Nat) (T : Nat → ClassId) (σ : ZS)  : zM l yX6_items wsX6_items ({ frames := 0, cells := 0, slots := 0, locals := 0 }) D (zT T) [.ref (ad 0)] (wC ad T σ) 0 0 (qI D (zT T) (fun v0 w => v0 = nI (σ.1 4) ∧ w = wC ad T σ)) := by
  refine zg_of (cc := cX6_items) (maxL := 1) (ret := (some .int)) (by decide) rfl (Nat.le_of_ble_eq_true rfl) (fun p e s m below meth c A hin hr X => ?_)
  have X : zC p s m _ meth c cX6_items 1 wsX6_items RX6 D (zT T) A := X
  have f6 : ∀ w ∈ u_ws RX6 TX6 9, w ∈ wsX6_items := by decide +kernel
  have f0 : ∀ w ∈ u_ws RX0 TX0 8, w ∈ wsX6_items := by decide +kernel
  have l271 : Cond.fieldLink RX6 271 "Recertify$Campaign" "count" "I" ∈ wsX6_items := by decide +kernel
  have l40 : Cond.fieldLink RX6 40 "Recertify" "campaign" "LRecertify$Campaign;" ∈ wsX6_items := by decide +kernel
  refine zg_aload_n X dX6_items_0 rfl ?_
  refine rg_R_campaign X f6 l40 dX6_items_1 ?_
  refine rg_Campaign_count X f0 l271 dX6_items_4 ?_
  exact zg_iret X hr dX6_items_7 (Nat.le_of_ble_eq_true rfl) (Nat.le_of_ble_eq_true rfl) (⟨rfl, rfl⟩)

set_option maxHeartbeats 4000000 in
set_option maxRecDepth 100000 in
theorem k_X6_undecided (l : Launch) (D : va_G) (ad : Nat → Nat) (T : Nat → ClassId) (σ : ZS)  : zM l yX6_undecided wsX6_undecided ({ frames := 0, cells := 0, slots := 0, locals := 0 }) D (zT T) [.ref (ad 0)] (wC ad T σ) 0 0 (qI D (zT T) (fun v0 w => v0 = nI (σ.1 6) ∧ w = wC ad T σ)) := by
  refine zg_of (cc := cX6_undecided) (maxL := 1) (ret := (some .int)) (by decide) rfl (Nat.le_of_ble_eq_true rfl) (fun p e s m below meth c A hin hr X => ?_)
  have X : zC p s m _ meth c cX6_undecided 1 wsX6_undecided RX6 D (zT T) A := X
  have f6 : ∀ w ∈ u_ws RX6 TX6 9, w ∈ wsX6_undecided := by decide +kernel
  have f0 : ∀ w ∈ u_ws RX0 TX0 8, w ∈ wsX6_undecided := by decide +kernel
  have l241 : Cond.fieldLink RX6 241 "Recertify$Campaign" "undecided" "I" ∈ wsX6_undecided := by decide +kernel
  have l40 : Cond.fieldLink RX6 40 "Recertify" "campaign" "LRecertify$Campaign;" ∈ wsX6_undecided := by decide +kernel
  refine zg_aload_n X dX6_undecided_0 rfl ?_
  refine rg_R_campaign X f6 l40 dX6_undecided_1 ?_
  refine rg_Campaign_undecided X f0 l241 dX6_undecided_4 ?_
  exact zg_iret X hr dX6_undecided_7 (Nat.le_of_ble_eq_true rfl) (Nat.le_of_ble_eq_true rfl) (⟨rfl, rfl⟩)

set_option maxHeartbeats 4000000 in
set_option maxRecDepth 100000 in
theorem k_X6_entries (l : Launch) (D : va_G) (ad : Nat → Nat) (T : Nat → ClassId) (σ : ZS)  : zM l yX6_entries wsX6_entries ({ frames := 0, cells := 0, slots := 0, locals := 0 }) D (zT T) [.ref (ad 0)] (wC ad T σ) 0 0 (qI D (zT T) (fun v0 w => v0 = nI (σ.1 5) ∧ w = wC ad T σ)) := by
  refine zg_of (cc := cX6_entries) (maxL := 1) (ret := (some .int)) (by decide) rfl (Nat.le_of_ble_eq_true rfl) (fun p e s m below meth c A hin hr X => ?_)
  have X : zC p s m _ meth c cX6_entries 1 wsX6_entries RX6 D (zT T) A := X
  have f6 : ∀ w ∈ u_ws RX6 TX6 9, w ∈ wsX6_entries := by decide +kernel
  have f1 : ∀ w ∈ u_ws RX1 TX1 5, w ∈ wsX6_entries := by decide +kernel
  have l307 : Cond.fieldLink RX6 307 "Recertify$Evidence" "count" "I" ∈ wsX6_entries := by decide +kernel
  have l47 : Cond.fieldLink RX6 47 "Recertify" "evidence" "LRecertify$Evidence;" ∈ wsX6_entries := by decide +kernel
  refine zg_aload_n X dX6_entries_0 rfl ?_
  refine rg_R_evidence X f6 l47 dX6_entries_1 ?_
  refine rg_Evidence_count X f1 l307 dX6_entries_4 ?_
  exact zg_iret X hr dX6_entries_7 (Nat.le_of_ble_eq_true rfl) (Nat.le_of_ble_eq_true rfl) (⟨rfl, rfl⟩)

set_option maxHeartbeats 4000000 in
set_option maxRecDepth 100000 in
theorem k_X6_isOpen (l : Launch) (D : va_G) (ad : Nat → Nat) (T : Nat → ClassId) (σ : ZS) (h6 : σ.1 6 < 2 ^ 31) : zM l yX6_isOpen wsX6_isOpen ({ frames := 0, cells := 0, slots := 0, locals := 0 }) D (zT T) [.ref (ad 0)] (wC ad T σ) 0 0 (qI D (zT T) (fun v0 w => v0 = bI (0 < σ.1 6) ∧ w = wC ad T σ)) := by
  refine zg_of (cc := cX6_isOpen) (maxL := 1) (ret := (some .boolean)) (by decide) rfl (Nat.le_of_ble_eq_true rfl) (fun p e s m below meth c A hin hr X => ?_)
  have X : zC p s m _ meth c cX6_isOpen 1 wsX6_isOpen RX6 D (zT T) A := X
  have f6 : ∀ w ∈ u_ws RX6 TX6 9, w ∈ wsX6_isOpen := by decide +kernel
  have f0 : ∀ w ∈ u_ws RX0 TX0 8, w ∈ wsX6_isOpen := by decide +kernel
  have l241 : Cond.fieldLink RX6 241 "Recertify$Campaign" "undecided" "I" ∈ wsX6_isOpen := by decide +kernel
  have l40 : Cond.fieldLink RX6 40 "Recertify" "campaign" "LRecertify$Campaign;" ∈ wsX6_isOpen := by decide +kernel
  refine zg_aload_n X dX6_isOpen_0 rfl ?_
  refine rg_R_campaign X f6 l40 dX6_isOpen_1 ?_
  refine rg_Campaign_undecided X f0 l241 dX6_isOpen_4 ?_
  refine zg_ifn_le X dX6_isOpen_7 (tgt := 14) (by decide) (by omega) (fun c_7 => ?_) (fun c_7 => ?_)
  · skip
    refine zg_iconst X (v := 0) dX6_isOpen_14 (by decide) ?_
    exact zg_nret X hr (rfl) dX6_isOpen_15 (Nat.le_of_ble_eq_true rfl) (Nat.le_of_ble_eq_true rfl) (⟨(bI_f (by omega)).symm, rfl⟩)
  · skip
    refine zg_iconst X (v := 1) dX6_isOpen_10 (by decide) ?_
    refine zg_goto X dX6_isOpen_11 (tgt := 15) (by decide) ?_
    exact zg_nret X hr (rfl) dX6_isOpen_15 (Nat.le_of_ble_eq_true rfl) (Nat.le_of_ble_eq_true rfl) (⟨(bI_t (by omega)).symm, rfl⟩)

set_option maxHeartbeats 4000000 in
set_option maxRecDepth 100000 in
theorem k_X6_trace (l : Launch) (D : va_G) (ad : Nat → Nat) (T : Nat → ClassId) (σ : ZS) (hI : zI σ)  : zM l yX6_trace wsX6_trace ({ frames := 0, cells := 0, slots := 0, locals := 0 }) D (zT T) [.ref (ad 0)] (wC ad T σ) 0 0 (qL D (zT T) (fun v0 w => v0 = trcI σ ∧ w = wC ad T σ)) := by
  have hB0 := hI.bd
  obtain ⟨b0, b1, b2, b3, b4, b5⟩ := hI.bd
  refine zg_of (cc := cX6_trace) (maxL := 4) (ret := (some .long)) (by decide) rfl (Nat.le_of_ble_eq_true rfl) (fun p e s m below meth c A hin hr X => ?_)
  have X : zC p s m _ meth c cX6_trace 4 wsX6_trace RX6 D (zT T) A := X
  have f6 : ∀ w ∈ u_ws RX6 TX6 9, w ∈ wsX6_trace := by decide +kernel
  have f1 : ∀ w ∈ u_ws RX1 TX1 5, w ∈ wsX6_trace := by decide +kernel
  have l307 : Cond.fieldLink RX6 307 "Recertify$Evidence" "count" "I" ∈ wsX6_trace := by decide +kernel
  have l314 : Cond.fieldLink RX6 314 "Recertify$Evidence" "seals" "[I" ∈ wsX6_trace := by decide +kernel
  have l320 : Cond.constantLong RX6 320 (31) ∈ wsX6_trace := by decide +kernel
  have l47 : Cond.fieldLink RX6 47 "Recertify" "evidence" "LRecertify$Evidence;" ∈ wsX6_trace := by decide +kernel
  refine zg_lconst X (v := 0) dX6_trace_0 rfl ?_
  refine zg_lstore_n X dX6_trace_1 (by decide) ?_
  refine zg_iconst X (v := 0) dX6_trace_2 (by decide) ?_
  refine zg_istore_n X dX6_trace_3 (by decide) ?_
  have LP4 : ∀ (fu : Nat) (i : Nat) (acc : Int64), σ.1 5 + 1 ≤ i + fu → i ≤ σ.1 5 → acc = fN (fun e acc => acc * 31 + (σ.2.2 15 e).toInt64) 0 i → zG p l e (headSpec wsX6_trace ({ frames := 0, cells := 0, slots := 0, locals := 0 })).room s m [.ref (ad 0)].toArray below meth c D 4 A 0 0 (MQ below (qL D (zT T) (fun v0 w => v0 = trcI σ ∧ w = wC ad T σ) A) [.ref (ad 0)].toArray s 0 0 A) (wC ad T σ) 4 [(0, .ref (ad 0)), (1, .long acc), (3, .int (nI i))] [] := by
    intro fu
    induction fu with
    | zero => intro i acc hfu hii _; exact absurd hfu (by omega)
    | succ fu ih4 =>
      intro i acc hfu hii hacc
      refine zg_iload_n X dX6_trace_4 rfl ?_
      refine zg_aload_n X dX6_trace_5 rfl ?_
      refine rg_R_evidence X f6 l47 dX6_trace_6 ?_
      refine rg_Evidence_count X f1 l307 dX6_trace_9 ?_
      refine zg_icmpn_ge X dX6_trace_12 (tgt := 38) (by decide) (a := i) (b := σ.1 5) (by omega) (by omega) (fun c_12 => ?_) (fun c_12 => ?_)
      · skip
        refine zg_lload_n X dX6_trace_38 rfl ?_
        exact zg_lret X hr dX6_trace_39 (Nat.le_of_ble_eq_true rfl) (Nat.le_of_ble_eq_true rfl) (⟨by rw [hacc, trcI, show i = σ.1 5 by omega], rfl⟩)
      · skip
        refine zg_lload_n X dX6_trace_15 rfl ?_
        refine zg_ldc2 X (v := 31) dX6_trace_16 l320 ?_
        refine zg_lmul X dX6_trace_19 ?_
        refine zg_aload_n X dX6_trace_20 rfl ?_
        refine rg_R_evidence X f6 l47 dX6_trace_21 ?_
        refine rg_Evidence_seals X f1 l314 dX6_trace_24 ?_
        refine zg_iload_n X dX6_trace_27 rfl ?_
        refine rlC_seals X (by omega) dX6_trace_28 ?_
        refine zg_i2l X dX6_trace_29 ?_
        refine zg_ladd X dX6_trace_30 ?_
        refine zg_lstore_n X dX6_trace_31 (by decide) ?_
        refine zg_iinc1 X dX6_trace_32 (by decide) rfl ?_
        refine zg_goto X dX6_trace_35 (tgt := 4) (by decide) ?_
        exact zg_lv (by exact ⟨rfl, rfl, rfl, trivial⟩) (ih4 (i + 1) _ (by omega) (by omega) (by rw [fN, ← hacc]))
  exact zg_lv (by exact ⟨rfl, rfl, rfl, trivial⟩) (LP4 (σ.1 5 + 1) 0 _ (by omega) (by omega) rfl)
