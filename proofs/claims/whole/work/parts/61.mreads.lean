/-! rows of methods, laid by a program of mine (wip/whole/walk.py) out of the bytecode and annotations -/
theorem qd_X7_apart : yX7_apart.cls ≠ "java/lang/invoke/MethodHandle" ∧ yX7_apart.cls ≠ "java/lang/invoke/VarHandle" ∧ (parseMethodDescriptor yX7_apart.desc).map (fun d => d.parameters.length) = some 2 := by decide +kernel
theorem qv_X7_apart : yX7_apart.cls = RX7 ∧ yX7_apart.cls ≠ "java/lang/invoke/MethodHandle" ∧ yX7_apart.cls ≠ "java/lang/invoke/VarHandle" ∧ (parseMethodDescriptor yX7_apart.desc).map (fun d => d.parameters.length) = some 2 := ⟨rfl, qd_X7_apart⟩
theorem qd_X7_day : yX7_day.cls ≠ "java/lang/invoke/MethodHandle" ∧ yX7_day.cls ≠ "java/lang/invoke/VarHandle" ∧ (parseMethodDescriptor yX7_day.desc).map (fun d => d.parameters.length) = some 0 := by decide +kernel
theorem qv_X7_day : yX7_day.cls = RX7 ∧ yX7_day.cls ≠ "java/lang/invoke/MethodHandle" ∧ yX7_day.cls ≠ "java/lang/invoke/VarHandle" ∧ (parseMethodDescriptor yX7_day.desc).map (fun d => d.parameters.length) = some 0 := ⟨rfl, qd_X7_day⟩
theorem qd_X7_decider : yX7_decider.cls ≠ "java/lang/invoke/MethodHandle" ∧ yX7_decider.cls ≠ "java/lang/invoke/VarHandle" ∧ (parseMethodDescriptor yX7_decider.desc).map (fun d => d.parameters.length) = some 1 := by decide +kernel
theorem qv_X7_decider : yX7_decider.cls = RX7 ∧ yX7_decider.cls ≠ "java/lang/invoke/MethodHandle" ∧ yX7_decider.cls ≠ "java/lang/invoke/VarHandle" ∧ (parseMethodDescriptor yX7_decider.desc).map (fun d => d.parameters.length) = some 1 := ⟨rfl, qd_X7_decider⟩
theorem qd_X7_dueDay : yX7_dueDay.cls ≠ "java/lang/invoke/MethodHandle" ∧ yX7_dueDay.cls ≠ "java/lang/invoke/VarHandle" ∧ (parseMethodDescriptor yX7_dueDay.desc).map (fun d => d.parameters.length) = some 1 := by decide +kernel
theorem qv_X7_dueDay : yX7_dueDay.cls = RX7 ∧ yX7_dueDay.cls ≠ "java/lang/invoke/MethodHandle" ∧ yX7_dueDay.cls ≠ "java/lang/invoke/VarHandle" ∧ (parseMethodDescriptor yX7_dueDay.desc).map (fun d => d.parameters.length) = some 1 := ⟨rfl, qd_X7_dueDay⟩
theorem qd_X7_entries : yX7_entries.cls ≠ "java/lang/invoke/MethodHandle" ∧ yX7_entries.cls ≠ "java/lang/invoke/VarHandle" ∧ (parseMethodDescriptor yX7_entries.desc).map (fun d => d.parameters.length) = some 0 := by decide +kernel
theorem qv_X7_entries : yX7_entries.cls = RX7 ∧ yX7_entries.cls ≠ "java/lang/invoke/MethodHandle" ∧ yX7_entries.cls ≠ "java/lang/invoke/VarHandle" ∧ (parseMethodDescriptor yX7_entries.desc).map (fun d => d.parameters.length) = some 0 := ⟨rfl, qd_X7_entries⟩
theorem qd_X7_grantOf : yX7_grantOf.cls ≠ "java/lang/invoke/MethodHandle" ∧ yX7_grantOf.cls ≠ "java/lang/invoke/VarHandle" ∧ (parseMethodDescriptor yX7_grantOf.desc).map (fun d => d.parameters.length) = some 1 := by decide +kernel
theorem qv_X7_grantOf : yX7_grantOf.cls = RX7 ∧ yX7_grantOf.cls ≠ "java/lang/invoke/MethodHandle" ∧ yX7_grantOf.cls ≠ "java/lang/invoke/VarHandle" ∧ (parseMethodDescriptor yX7_grantOf.desc).map (fun d => d.parameters.length) = some 1 := ⟨rfl, qd_X7_grantOf⟩
theorem qd_X7_grants : yX7_grants.cls ≠ "java/lang/invoke/MethodHandle" ∧ yX7_grants.cls ≠ "java/lang/invoke/VarHandle" ∧ (parseMethodDescriptor yX7_grants.desc).map (fun d => d.parameters.length) = some 0 := by decide +kernel
theorem qv_X7_grants : yX7_grants.cls = RX7 ∧ yX7_grants.cls ≠ "java/lang/invoke/MethodHandle" ∧ yX7_grants.cls ≠ "java/lang/invoke/VarHandle" ∧ (parseMethodDescriptor yX7_grants.desc).map (fun d => d.parameters.length) = some 0 := ⟨rfl, qd_X7_grants⟩
theorem qd_X7_holdersOf : yX7_holdersOf.cls ≠ "java/lang/invoke/MethodHandle" ∧ yX7_holdersOf.cls ≠ "java/lang/invoke/VarHandle" ∧ (parseMethodDescriptor yX7_holdersOf.desc).map (fun d => d.parameters.length) = some 1 := by decide +kernel
theorem qv_X7_holdersOf : yX7_holdersOf.cls = RX7 ∧ yX7_holdersOf.cls ≠ "java/lang/invoke/MethodHandle" ∧ yX7_holdersOf.cls ≠ "java/lang/invoke/VarHandle" ∧ (parseMethodDescriptor yX7_holdersOf.desc).map (fun d => d.parameters.length) = some 1 := ⟨rfl, qd_X7_holdersOf⟩
theorem qd_X7_holds : yX7_holds.cls ≠ "java/lang/invoke/MethodHandle" ∧ yX7_holds.cls ≠ "java/lang/invoke/VarHandle" ∧ (parseMethodDescriptor yX7_holds.desc).map (fun d => d.parameters.length) = some 2 := by decide +kernel
theorem qv_X7_holds : yX7_holds.cls = RX7 ∧ yX7_holds.cls ≠ "java/lang/invoke/MethodHandle" ∧ yX7_holds.cls ≠ "java/lang/invoke/VarHandle" ∧ (parseMethodDescriptor yX7_holds.desc).map (fun d => d.parameters.length) = some 2 := ⟨rfl, qd_X7_holds⟩
theorem qd_X7_holdsByPaths : yX7_holdsByPaths.cls ≠ "java/lang/invoke/MethodHandle" ∧ yX7_holdsByPaths.cls ≠ "java/lang/invoke/VarHandle" ∧ (parseMethodDescriptor yX7_holdsByPaths.desc).map (fun d => d.parameters.length) = some 2 := by decide +kernel
theorem qv_X7_holdsByPaths : yX7_holdsByPaths.cls = RX7 ∧ yX7_holdsByPaths.cls ≠ "java/lang/invoke/MethodHandle" ∧ yX7_holdsByPaths.cls ≠ "java/lang/invoke/VarHandle" ∧ (parseMethodDescriptor yX7_holdsByPaths.desc).map (fun d => d.parameters.length) = some 2 := ⟨rfl, qd_X7_holdsByPaths⟩
theorem qd_X7_isBlocked : yX7_isBlocked.cls ≠ "java/lang/invoke/MethodHandle" ∧ yX7_isBlocked.cls ≠ "java/lang/invoke/VarHandle" ∧ (parseMethodDescriptor yX7_isBlocked.desc).map (fun d => d.parameters.length) = some 1 := by decide +kernel
theorem qv_X7_isBlocked : yX7_isBlocked.cls = RX7 ∧ yX7_isBlocked.cls ≠ "java/lang/invoke/MethodHandle" ∧ yX7_isBlocked.cls ≠ "java/lang/invoke/VarHandle" ∧ (parseMethodDescriptor yX7_isBlocked.desc).map (fun d => d.parameters.length) = some 1 := ⟨rfl, qd_X7_isBlocked⟩
theorem qd_X7_isDenied : yX7_isDenied.cls ≠ "java/lang/invoke/MethodHandle" ∧ yX7_isDenied.cls ≠ "java/lang/invoke/VarHandle" ∧ (parseMethodDescriptor yX7_isDenied.desc).map (fun d => d.parameters.length) = some 2 := by decide +kernel
theorem qv_X7_isDenied : yX7_isDenied.cls = RX7 ∧ yX7_isDenied.cls ≠ "java/lang/invoke/MethodHandle" ∧ yX7_isDenied.cls ≠ "java/lang/invoke/VarHandle" ∧ (parseMethodDescriptor yX7_isDenied.desc).map (fun d => d.parameters.length) = some 2 := ⟨rfl, qd_X7_isDenied⟩
theorem qd_X7_isMember : yX7_isMember.cls ≠ "java/lang/invoke/MethodHandle" ∧ yX7_isMember.cls ≠ "java/lang/invoke/VarHandle" ∧ (parseMethodDescriptor yX7_isMember.desc).map (fun d => d.parameters.length) = some 2 := by decide +kernel
theorem qv_X7_isMember : yX7_isMember.cls = RX7 ∧ yX7_isMember.cls ≠ "java/lang/invoke/MethodHandle" ∧ yX7_isMember.cls ≠ "java/lang/invoke/VarHandle" ∧ (parseMethodDescriptor yX7_isMember.desc).map (fun d => d.parameters.length) = some 2 := ⟨rfl, qd_X7_isMember⟩
theorem qd_X7_isOpen : yX7_isOpen.cls ≠ "java/lang/invoke/MethodHandle" ∧ yX7_isOpen.cls ≠ "java/lang/invoke/VarHandle" ∧ (parseMethodDescriptor yX7_isOpen.desc).map (fun d => d.parameters.length) = some 0 := by decide +kernel
theorem qv_X7_isOpen : yX7_isOpen.cls = RX7 ∧ yX7_isOpen.cls ≠ "java/lang/invoke/MethodHandle" ∧ yX7_isOpen.cls ≠ "java/lang/invoke/VarHandle" ∧ (parseMethodDescriptor yX7_isOpen.desc).map (fun d => d.parameters.length) = some 0 := ⟨rfl, qd_X7_isOpen⟩
theorem qd_X7_items : yX7_items.cls ≠ "java/lang/invoke/MethodHandle" ∧ yX7_items.cls ≠ "java/lang/invoke/VarHandle" ∧ (parseMethodDescriptor yX7_items.desc).map (fun d => d.parameters.length) = some 0 := by decide +kernel
theorem qv_X7_items : yX7_items.cls = RX7 ∧ yX7_items.cls ≠ "java/lang/invoke/MethodHandle" ∧ yX7_items.cls ≠ "java/lang/invoke/VarHandle" ∧ (parseMethodDescriptor yX7_items.desc).map (fun d => d.parameters.length) = some 0 := ⟨rfl, qd_X7_items⟩
theorem qd_X7_lastUse : yX7_lastUse.cls ≠ "java/lang/invoke/MethodHandle" ∧ yX7_lastUse.cls ≠ "java/lang/invoke/VarHandle" ∧ (parseMethodDescriptor yX7_lastUse.desc).map (fun d => d.parameters.length) = some 1 := by decide +kernel
theorem qv_X7_lastUse : yX7_lastUse.cls = RX7 ∧ yX7_lastUse.cls ≠ "java/lang/invoke/MethodHandle" ∧ yX7_lastUse.cls ≠ "java/lang/invoke/VarHandle" ∧ (parseMethodDescriptor yX7_lastUse.desc).map (fun d => d.parameters.length) = some 1 := ⟨rfl, qd_X7_lastUse⟩
theorem qd_X7_members : yX7_members.cls ≠ "java/lang/invoke/MethodHandle" ∧ yX7_members.cls ≠ "java/lang/invoke/VarHandle" ∧ (parseMethodDescriptor yX7_members.desc).map (fun d => d.parameters.length) = some 1 := by decide +kernel
theorem qv_X7_members : yX7_members.cls = RX7 ∧ yX7_members.cls ≠ "java/lang/invoke/MethodHandle" ∧ yX7_members.cls ≠ "java/lang/invoke/VarHandle" ∧ (parseMethodDescriptor yX7_members.desc).map (fun d => d.parameters.length) = some 1 := ⟨rfl, qd_X7_members⟩
theorem qd_X7_people : yX7_people.cls ≠ "java/lang/invoke/MethodHandle" ∧ yX7_people.cls ≠ "java/lang/invoke/VarHandle" ∧ (parseMethodDescriptor yX7_people.desc).map (fun d => d.parameters.length) = some 0 := by decide +kernel
theorem qv_X7_people : yX7_people.cls = RX7 ∧ yX7_people.cls ≠ "java/lang/invoke/MethodHandle" ∧ yX7_people.cls ≠ "java/lang/invoke/VarHandle" ∧ (parseMethodDescriptor yX7_people.desc).map (fun d => d.parameters.length) = some 0 := ⟨rfl, qd_X7_people⟩
theorem qd_X7_reviewerOf : yX7_reviewerOf.cls ≠ "java/lang/invoke/MethodHandle" ∧ yX7_reviewerOf.cls ≠ "java/lang/invoke/VarHandle" ∧ (parseMethodDescriptor yX7_reviewerOf.desc).map (fun d => d.parameters.length) = some 1 := by decide +kernel
theorem qv_X7_reviewerOf : yX7_reviewerOf.cls = RX7 ∧ yX7_reviewerOf.cls ≠ "java/lang/invoke/MethodHandle" ∧ yX7_reviewerOf.cls ≠ "java/lang/invoke/VarHandle" ∧ (parseMethodDescriptor yX7_reviewerOf.desc).map (fun d => d.parameters.length) = some 1 := ⟨rfl, qd_X7_reviewerOf⟩
theorem qd_X7_rightBits : yX7_rightBits.cls ≠ "java/lang/invoke/MethodHandle" ∧ yX7_rightBits.cls ≠ "java/lang/invoke/VarHandle" ∧ (parseMethodDescriptor yX7_rightBits.desc).map (fun d => d.parameters.length) = some 1 := by decide +kernel
theorem qv_X7_rightBits : yX7_rightBits.cls = RX7 ∧ yX7_rightBits.cls ≠ "java/lang/invoke/MethodHandle" ∧ yX7_rightBits.cls ≠ "java/lang/invoke/VarHandle" ∧ (parseMethodDescriptor yX7_rightBits.desc).map (fun d => d.parameters.length) = some 1 := ⟨rfl, qd_X7_rightBits⟩
theorem qd_X7_rightsOf : yX7_rightsOf.cls ≠ "java/lang/invoke/MethodHandle" ∧ yX7_rightsOf.cls ≠ "java/lang/invoke/VarHandle" ∧ (parseMethodDescriptor yX7_rightsOf.desc).map (fun d => d.parameters.length) = some 1 := by decide +kernel
theorem qv_X7_rightsOf : yX7_rightsOf.cls = RX7 ∧ yX7_rightsOf.cls ≠ "java/lang/invoke/MethodHandle" ∧ yX7_rightsOf.cls ≠ "java/lang/invoke/VarHandle" ∧ (parseMethodDescriptor yX7_rightsOf.desc).map (fun d => d.parameters.length) = some 1 := ⟨rfl, qd_X7_rightsOf⟩
theorem qd_X7_riskFor : yX7_riskFor.cls ≠ "java/lang/invoke/MethodHandle" ∧ yX7_riskFor.cls ≠ "java/lang/invoke/VarHandle" ∧ (parseMethodDescriptor yX7_riskFor.desc).map (fun d => d.parameters.length) = some 2 := by decide +kernel
theorem qv_X7_riskFor : yX7_riskFor.cls = RX7 ∧ yX7_riskFor.cls ≠ "java/lang/invoke/MethodHandle" ∧ yX7_riskFor.cls ≠ "java/lang/invoke/VarHandle" ∧ (parseMethodDescriptor yX7_riskFor.desc).map (fun d => d.parameters.length) = some 2 := ⟨rfl, qd_X7_riskFor⟩
theorem qd_X7_riskOf : yX7_riskOf.cls ≠ "java/lang/invoke/MethodHandle" ∧ yX7_riskOf.cls ≠ "java/lang/invoke/VarHandle" ∧ (parseMethodDescriptor yX7_riskOf.desc).map (fun d => d.parameters.length) = some 1 := by decide +kernel
theorem qv_X7_riskOf : yX7_riskOf.cls = RX7 ∧ yX7_riskOf.cls ≠ "java/lang/invoke/MethodHandle" ∧ yX7_riskOf.cls ≠ "java/lang/invoke/VarHandle" ∧ (parseMethodDescriptor yX7_riskOf.desc).map (fun d => d.parameters.length) = some 1 := ⟨rfl, qd_X7_riskOf⟩
theorem qd_X7_sealAt : yX7_sealAt.cls ≠ "java/lang/invoke/MethodHandle" ∧ yX7_sealAt.cls ≠ "java/lang/invoke/VarHandle" ∧ (parseMethodDescriptor yX7_sealAt.desc).map (fun d => d.parameters.length) = some 1 := by decide +kernel
theorem qv_X7_sealAt : yX7_sealAt.cls = RX7 ∧ yX7_sealAt.cls ≠ "java/lang/invoke/MethodHandle" ∧ yX7_sealAt.cls ≠ "java/lang/invoke/VarHandle" ∧ (parseMethodDescriptor yX7_sealAt.desc).map (fun d => d.parameters.length) = some 1 := ⟨rfl, qd_X7_sealAt⟩
theorem qd_X7_sealByReplay : yX7_sealByReplay.cls ≠ "java/lang/invoke/MethodHandle" ∧ yX7_sealByReplay.cls ≠ "java/lang/invoke/VarHandle" ∧ (parseMethodDescriptor yX7_sealByReplay.desc).map (fun d => d.parameters.length) = some 1 := by decide +kernel
theorem qv_X7_sealByReplay : yX7_sealByReplay.cls = RX7 ∧ yX7_sealByReplay.cls ≠ "java/lang/invoke/MethodHandle" ∧ yX7_sealByReplay.cls ≠ "java/lang/invoke/VarHandle" ∧ (parseMethodDescriptor yX7_sealByReplay.desc).map (fun d => d.parameters.length) = some 1 := ⟨rfl, qd_X7_sealByReplay⟩
theorem qd_X7_signAt : yX7_signAt.cls ≠ "java/lang/invoke/MethodHandle" ∧ yX7_signAt.cls ≠ "java/lang/invoke/VarHandle" ∧ (parseMethodDescriptor yX7_signAt.desc).map (fun d => d.parameters.length) = some 1 := by decide +kernel
theorem qv_X7_signAt : yX7_signAt.cls = RX7 ∧ yX7_signAt.cls ≠ "java/lang/invoke/MethodHandle" ∧ yX7_signAt.cls ≠ "java/lang/invoke/VarHandle" ∧ (parseMethodDescriptor yX7_signAt.desc).map (fun d => d.parameters.length) = some 1 := ⟨rfl, qd_X7_signAt⟩
theorem qd_X7_standIn : yX7_standIn.cls ≠ "java/lang/invoke/MethodHandle" ∧ yX7_standIn.cls ≠ "java/lang/invoke/VarHandle" ∧ (parseMethodDescriptor yX7_standIn.desc).map (fun d => d.parameters.length) = some 1 := by decide +kernel
theorem qv_X7_standIn : yX7_standIn.cls = RX7 ∧ yX7_standIn.cls ≠ "java/lang/invoke/MethodHandle" ∧ yX7_standIn.cls ≠ "java/lang/invoke/VarHandle" ∧ (parseMethodDescriptor yX7_standIn.desc).map (fun d => d.parameters.length) = some 1 := ⟨rfl, qd_X7_standIn⟩
theorem qd_X7_stateOf : yX7_stateOf.cls ≠ "java/lang/invoke/MethodHandle" ∧ yX7_stateOf.cls ≠ "java/lang/invoke/VarHandle" ∧ (parseMethodDescriptor yX7_stateOf.desc).map (fun d => d.parameters.length) = some 1 := by decide +kernel
theorem qv_X7_stateOf : yX7_stateOf.cls = RX7 ∧ yX7_stateOf.cls ≠ "java/lang/invoke/MethodHandle" ∧ yX7_stateOf.cls ≠ "java/lang/invoke/VarHandle" ∧ (parseMethodDescriptor yX7_stateOf.desc).map (fun d => d.parameters.length) = some 1 := ⟨rfl, qd_X7_stateOf⟩
theorem qd_X7_trace : yX7_trace.cls ≠ "java/lang/invoke/MethodHandle" ∧ yX7_trace.cls ≠ "java/lang/invoke/VarHandle" ∧ (parseMethodDescriptor yX7_trace.desc).map (fun d => d.parameters.length) = some 0 := by decide +kernel
theorem qv_X7_trace : yX7_trace.cls = RX7 ∧ yX7_trace.cls ≠ "java/lang/invoke/MethodHandle" ∧ yX7_trace.cls ≠ "java/lang/invoke/VarHandle" ∧ (parseMethodDescriptor yX7_trace.desc).map (fun d => d.parameters.length) = some 0 := ⟨rfl, qd_X7_trace⟩
theorem qd_X7_undecided : yX7_undecided.cls ≠ "java/lang/invoke/MethodHandle" ∧ yX7_undecided.cls ≠ "java/lang/invoke/VarHandle" ∧ (parseMethodDescriptor yX7_undecided.desc).map (fun d => d.parameters.length) = some 0 := by decide +kernel
theorem qv_X7_undecided : yX7_undecided.cls = RX7 ∧ yX7_undecided.cls ≠ "java/lang/invoke/MethodHandle" ∧ yX7_undecided.cls ≠ "java/lang/invoke/VarHandle" ∧ (parseMethodDescriptor yX7_undecided.desc).map (fun d => d.parameters.length) = some 0 := ⟨rfl, qd_X7_undecided⟩
theorem qd_X7_verdict : yX7_verdict.cls ≠ "java/lang/invoke/MethodHandle" ∧ yX7_verdict.cls ≠ "java/lang/invoke/VarHandle" ∧ (parseMethodDescriptor yX7_verdict.desc).map (fun d => d.parameters.length) = some 1 := by decide +kernel
theorem qv_X7_verdict : yX7_verdict.cls = RX7 ∧ yX7_verdict.cls ≠ "java/lang/invoke/MethodHandle" ∧ yX7_verdict.cls ≠ "java/lang/invoke/VarHandle" ∧ (parseMethodDescriptor yX7_verdict.desc).map (fun d => d.parameters.length) = some 1 := ⟨rfl, qd_X7_verdict⟩
set_option maxHeartbeats 4000000 in
set_option maxRecDepth 100000 in
theorem k_X7_standIn (l : Launch) (D : va_G) (ad : Nat → Nat) (T : Nat → ClassId) (σ : ZS) (hI : zI σ) (x : Int32)  : zM l yX7_standIn wsX7_standIn ({ frames := 2, cells := 0, slots := 0, locals := 44 }) D (zT T) [.ref (ad 0), .int x] (wM ad T σ) 0 0 (qI D (zT T) (fun v0 w => ∃ t, mR [eNS] σ (sp_standIn σ x) v0 t ∧ w = wM ad T t)) := by
  have hB0 := hI.bd
  obtain ⟨b0, b1, b2, b3, b4, b5⟩ := hI.bd
  refine zg_of (cc := cX7_standIn) (maxL := 2) (ret := (some .int)) (by decide) rfl (Nat.le_of_ble_eq_true rfl) (fun p e s m below meth c A hin hr X => ?_)
  have X : zC p s m _ meth c cX7_standIn 2 wsX7_standIn RX7 D (zT T) A := X
  have f7 : ∀ w ∈ u_ws RX7 TX7 37, w ∈ wsX7_standIn := by decide +kernel
  have l85 : Cond.fieldLink RX7 85 "RecertifyModel" "thrown" "I" ∈ wsX7_standIn := by decide +kernel
  refine zg_aload_n X dX7_standIn_0 rfl ?_
  refine zg_iconst X (v := 0) dX7_standIn_1 (by decide) ?_
  refine rp_M_thrown X f7 l85 dX7_standIn_2 ?_
  refine zg_aload_n X dX7_standIn_5 rfl ?_
  refine zg_iload_n X dX7_standIn_6 rfl ?_
  refine zg_callVi X (k_X7_isPerson l D ad T (uN σ 8 0) hB0 _) zFr.rf gX7_standIn_X7_isPerson rfl rfl rfl qv_X7_isPerson rfl ⟨Nat.le_of_ble_eq_true rfl, Nat.le_of_ble_eq_true rfl⟩ (q0 := 0) (ci := 9) rfl rfl rfl (Nat.le_of_ble_eq_true rfl) ⟨Nat.le_of_ble_eq_true rfl, Nat.le_of_ble_eq_true rfl⟩ dX7_standIn_7 (fun r w1 hz9 => ?_)
  obtain ⟨rfl, rfl⟩ := hz9
  refine zg_if_eqb X dX7_standIn_10 (tgt := 21) (by decide) (fun c_10 => ?_) (fun c_10 => ?_)
  · skip
    refine zg_aload_n X dX7_standIn_21 rfl ?_
    refine zg_iconst X (v := 1) dX7_standIn_22 (by decide) ?_
    refine zg_callVi X (k_X7_fails l D ad T (uN σ 8 0) 1) zFr.rf gX7_standIn_X7_fails rfl rfl rfl qv_X7_fails rfl ⟨Nat.le_of_ble_eq_true rfl, Nat.le_of_ble_eq_true rfl⟩ (q0 := 0) (ci := 9) rfl rfl rfl (Nat.le_of_ble_eq_true rfl) ⟨Nat.le_of_ble_eq_true rfl, Nat.le_of_ble_eq_true rfl⟩ dX7_standIn_23 (fun r w1 hz9 => ?_)
    obtain ⟨rfl, rfl⟩ := hz9
    exact zg_iret X hr dX7_standIn_26 (Nat.le_of_ble_eq_true rfl) (Nat.le_of_ble_eq_true rfl) (⟨uN (uN σ 8 0) 8 1, mR_f 0 (by rw [sp_standIn, if_neg (show ¬ pIn x (σ.1 0) from c_10)]) rfl rfl, rfl⟩)
  · skip
    have p0 : pIn x (σ.1 0) := c_10
    obtain ⟨j0, h0, e0⟩ := pIn_idx (by omega) p0
    subst e0
    have k0 : j0 < 2 ^ 31 := by omega
    refine zg_aload_n X dX7_standIn_13 rfl ?_
    refine zg_iload_n X dX7_standIn_14 rfl ?_
    refine zg_callVi X (k_X7_standBy l D ad T (uN σ 8 0) hI (nI j0) (Or.inr ⟨j0, h0, rfl⟩)) zFr.rf gX7_standIn_X7_standBy rfl rfl rfl qv_X7_standBy rfl ⟨Nat.le_of_ble_eq_true rfl, Nat.le_of_ble_eq_true rfl⟩ (q0 := 0) (ci := 9) rfl rfl rfl (Nat.le_of_ble_eq_true rfl) ⟨Nat.le_of_ble_eq_true rfl, Nat.le_of_ble_eq_true rfl⟩ dX7_standIn_15 (fun r w1 hz9 => ?_)
    obtain ⟨rfl, rfl⟩ := hz9
    refine zg_top (v' := fpI σ (σ.1 0) (nI j0)) (by rw [fpI_ovl ovl_8] <;> rfl) ?_
    refine zg_goto X dX7_standIn_18 (tgt := 26) (by decide) ?_
    exact zg_iret X hr dX7_standIn_26 (Nat.le_of_ble_eq_true rfl) (Nat.le_of_ble_eq_true rfl) (⟨uN σ 8 0, mR_r (by rw [sp_standIn, if_pos p0] <;> rfl), rfl⟩)

set_option maxHeartbeats 4000000 in
set_option maxRecDepth 100000 in
theorem k_X7_isMember (l : Launch) (D : va_G) (ad : Nat → Nat) (T : Nat → ClassId) (σ : ZS) (hI : zI σ) (x y : Int32)  : zM l yX7_isMember wsX7_isMember ({ frames := 3, cells := 0, slots := 0, locals := 69 }) D (zT T) [.ref (ad 0), .int x, .int y] (wM ad T σ) 0 0 (qI D (zT T) (fun v0 w => ∃ t, mR [eNS] σ (sp_isMember σ x y) v0 t ∧ w = wM ad T t)) := by
  have hB0 := hI.bd
  obtain ⟨b0, b1, b2, b3, b4, b5⟩ := hI.bd
  refine zg_of (cc := cX7_isMember) (maxL := 3) (ret := (some .boolean)) (by decide) rfl (Nat.le_of_ble_eq_true rfl) (fun p e s m below meth c A hin hr X => ?_)
  have X : zC p s m _ meth c cX7_isMember 3 wsX7_isMember RX7 D (zT T) A := X
  refine zg_aload_n X dX7_isMember_0 rfl ?_
  refine zg_iload_n X dX7_isMember_1 rfl ?_
  refine zg_iload_n X dX7_isMember_2 rfl ?_
  refine zg_callVi X (k_X7_isNotThere l D ad T σ hB0 _ _) zFr.rf gX7_isMember_X7_isNotThere rfl rfl rfl qv_X7_isNotThere rfl ⟨Nat.le_of_ble_eq_true rfl, Nat.le_of_ble_eq_true rfl⟩ (q0 := 0) (ci := 9) rfl rfl rfl (Nat.le_of_ble_eq_true rfl) ⟨Nat.le_of_ble_eq_true rfl, Nat.le_of_ble_eq_true rfl⟩ dX7_isMember_3 (fun r w1 hz9 => ?_)
  obtain ⟨rfl, rfl⟩ := hz9
  refine zg_if_neb X dX7_isMember_6 (tgt := 25) (by decide) (fun c_6 => ?_) (fun c_6 => ?_)
  · skip
    refine zg_w (w' := wM ad T (uN σ 8 1)) (by rw [if_neg c_6]) ?_
    refine zg_iconst X (v := 0) dX7_isMember_25 (by decide) ?_
    exact zg_nret X hr (rfl) dX7_isMember_26 (Nat.le_of_ble_eq_true rfl) (Nat.le_of_ble_eq_true rfl) (⟨uN σ 8 1, mR_f1 0 (by rw [sp_isMember, if_neg c_6]) rfl rfl, rfl⟩)
  · skip
    have pA : pIn x (σ.1 1) ∧ pIn y (σ.1 0) := Classical.not_not.mp c_6
    refine zg_w (w' := wM ad T (uN σ 8 0)) (by rw [if_pos pA]) ?_
    obtain ⟨p0, p1⟩ := pA
    obtain ⟨j0, h0, e0⟩ := pIn_idx (by omega) p0
    subst e0
    have k0 : j0 < 2 ^ 31 := by omega
    obtain ⟨j1, h1, e1⟩ := pIn_idx (by omega) p1
    subst e1
    have k1 : j1 < 2 ^ 31 := by omega
    refine zg_aload_n X dX7_isMember_9 rfl ?_
    refine zg_iload_n X dX7_isMember_10 rfl ?_
    refine zg_callVi X (k_X7_membersOf l D ad T (uN σ 8 0) hI j0 h0) zFr.rf gX7_isMember_X7_membersOf rfl rfl rfl qv_X7_membersOf rfl ⟨Nat.le_of_ble_eq_true rfl, Nat.le_of_ble_eq_true rfl⟩ (q0 := 0) (ci := 9) rfl rfl rfl (Nat.le_of_ble_eq_true rfl) ⟨Nat.le_of_ble_eq_true rfl, Nat.le_of_ble_eq_true rfl⟩ dX7_isMember_11 (fun r w1 hz9 => ?_)
    obtain ⟨rfl, rfl⟩ := hz9
    refine zg_iload_n X dX7_isMember_14 rfl ?_
    refine zg_callSi X (k_X7_has l D ad T (uN σ 8 0) _ j1 (by omega)) zFr.rf gX7_isMember_X7_has rfl rfl rfl qd_X7_has rfl ⟨Nat.le_of_ble_eq_true rfl, Nat.le_of_ble_eq_true rfl⟩ rfl (Nat.le_of_ble_eq_true rfl) ⟨Nat.le_of_ble_eq_true rfl, Nat.le_of_ble_eq_true rfl⟩ dX7_isMember_15 (fun r w1 hz9 => ?_)
    obtain ⟨rfl, rfl⟩ := hz9
    refine zg_if_eqb X dX7_isMember_18 (tgt := 25) (by decide) (fun c_18 => ?_) (fun c_18 => ?_)
    · skip
      skip
      refine zg_iconst X (v := 0) dX7_isMember_25 (by decide) ?_
      exact zg_nret X hr (rfl) dX7_isMember_26 (Nat.le_of_ble_eq_true rfl) (Nat.le_of_ble_eq_true rfl) (⟨uN σ 8 0, mR_r (by rw [sp_isMember, if_pos (And.intro p0 p1), ix_nI k0, ix_nI k1, hI.all j0 h0, bI_f (show ¬ hB (memI σ j0) j1 from c_18)] <;> rfl), rfl⟩)
    · skip
      refine zg_iconst X (v := 1) dX7_isMember_21 (by decide) ?_
      refine zg_goto X dX7_isMember_22 (tgt := 26) (by decide) ?_
      exact zg_nret X hr (rfl) dX7_isMember_26 (Nat.le_of_ble_eq_true rfl) (Nat.le_of_ble_eq_true rfl) (⟨uN σ 8 0, mR_r (by rw [sp_isMember, if_pos (And.intro p0 p1), ix_nI k0, ix_nI k1, hI.all j0 h0, bI_t (show hB (memI σ j0) j1 from c_18)] <;> rfl), rfl⟩)

set_option maxHeartbeats 4000000 in
set_option maxRecDepth 100000 in
theorem k_X7_members (l : Launch) (D : va_G) (ad : Nat → Nat) (T : Nat → ClassId) (σ : ZS) (hI : zI σ) (x : Int32)  : zM l yX7_members wsX7_members ({ frames := 3, cells := 0, slots := 0, locals := 69 }) D (zT T) [.ref (ad 0), .int x] (wM ad T σ) 0 0 (qI D (zT T) (fun v0 w => ∃ t, mR [eNS] σ (sp_members σ x) v0 t ∧ w = wM ad T t)) := by
  have hB0 := hI.bd
  obtain ⟨b0, b1, b2, b3, b4, b5⟩ := hI.bd
  refine zg_of (cc := cX7_members) (maxL := 2) (ret := (some .int)) (by decide) rfl (Nat.le_of_ble_eq_true rfl) (fun p e s m below meth c A hin hr X => ?_)
  have X : zC p s m _ meth c cX7_members 2 wsX7_members RX7 D (zT T) A := X
  have f7 : ∀ w ∈ u_ws RX7 TX7 37, w ∈ wsX7_members := by decide +kernel
  have l85 : Cond.fieldLink RX7 85 "RecertifyModel" "thrown" "I" ∈ wsX7_members := by decide +kernel
  refine zg_aload_n X dX7_members_0 rfl ?_
  refine zg_iconst X (v := 0) dX7_members_1 (by decide) ?_
  refine rp_M_thrown X f7 l85 dX7_members_2 ?_
  refine zg_aload_n X dX7_members_5 rfl ?_
  refine zg_iload_n X dX7_members_6 rfl ?_
  refine zg_callVi X (k_X7_isGroup l D ad T (uN σ 8 0) hB0 _) zFr.rf gX7_members_X7_isGroup rfl rfl rfl qv_X7_isGroup rfl ⟨Nat.le_of_ble_eq_true rfl, Nat.le_of_ble_eq_true rfl⟩ (q0 := 0) (ci := 9) rfl rfl rfl (Nat.le_of_ble_eq_true rfl) ⟨Nat.le_of_ble_eq_true rfl, Nat.le_of_ble_eq_true rfl⟩ dX7_members_7 (fun r w1 hz9 => ?_)
  obtain ⟨rfl, rfl⟩ := hz9
  refine zg_if_eqb X dX7_members_10 (tgt := 24) (by decide) (fun c_10 => ?_) (fun c_10 => ?_)
  · skip
    refine zg_aload_n X dX7_members_24 rfl ?_
    refine zg_iconst X (v := 1) dX7_members_25 (by decide) ?_
    refine zg_callVi X (k_X7_fails l D ad T (uN σ 8 0) 1) zFr.rf gX7_members_X7_fails rfl rfl rfl qv_X7_fails rfl ⟨Nat.le_of_ble_eq_true rfl, Nat.le_of_ble_eq_true rfl⟩ (q0 := 0) (ci := 9) rfl rfl rfl (Nat.le_of_ble_eq_true rfl) ⟨Nat.le_of_ble_eq_true rfl, Nat.le_of_ble_eq_true rfl⟩ dX7_members_26 (fun r w1 hz9 => ?_)
    obtain ⟨rfl, rfl⟩ := hz9
    exact zg_iret X hr dX7_members_29 (Nat.le_of_ble_eq_true rfl) (Nat.le_of_ble_eq_true rfl) (⟨uN (uN σ 8 0) 8 1, mR_f 0 (by rw [sp_members, if_neg (show ¬ pIn x (σ.1 1) from c_10)]) rfl rfl, rfl⟩)
  · skip
    have p0 : pIn x (σ.1 1) := c_10
    obtain ⟨j0, h0, e0⟩ := pIn_idx (by omega) p0
    subst e0
    have k0 : j0 < 2 ^ 31 := by omega
    refine zg_aload_n X dX7_members_13 rfl ?_
    refine zg_iload_n X dX7_members_14 rfl ?_
    refine zg_callVi X (k_X7_membersOf l D ad T (uN σ 8 0) hI j0 h0) zFr.rf gX7_members_X7_membersOf rfl rfl rfl qv_X7_membersOf rfl ⟨Nat.le_of_ble_eq_true rfl, Nat.le_of_ble_eq_true rfl⟩ (q0 := 0) (ci := 9) rfl rfl rfl (Nat.le_of_ble_eq_true rfl) ⟨Nat.le_of_ble_eq_true rfl, Nat.le_of_ble_eq_true rfl⟩ dX7_members_15 (fun r w1 hz9 => ?_)
    obtain ⟨rfl, rfl⟩ := hz9
    refine zg_callSi X (k_X7_size l D ad T (uN σ 8 0) _) zFr.rf gX7_members_X7_size rfl rfl rfl qd_X7_size rfl ⟨Nat.le_of_ble_eq_true rfl, Nat.le_of_ble_eq_true rfl⟩ rfl (Nat.le_of_ble_eq_true rfl) ⟨Nat.le_of_ble_eq_true rfl, Nat.le_of_ble_eq_true rfl⟩ dX7_members_18 (fun r w1 hz9 => ?_)
    obtain ⟨rfl, rfl⟩ := hz9
    refine zg_goto X dX7_members_21 (tgt := 29) (by decide) ?_
    exact zg_iret X hr dX7_members_29 (Nat.le_of_ble_eq_true rfl) (Nat.le_of_ble_eq_true rfl) (⟨uN σ 8 0, mR_r (by rw [sp_members, if_pos p0, ix_nI k0, hI.all j0 h0, bcnt_sm (mem_sm hI)] <;> rfl), rfl⟩)

set_option maxHeartbeats 4000000 in
set_option maxRecDepth 100000 in
theorem k_X7_holds (l : Launch) (D : va_G) (ad : Nat → Nat) (T : Nat → ClassId) (σ : ZS) (hI : zI σ) (x y : Int32)  : zM l yX7_holds wsX7_holds ({ frames := 6, cells := 0, slots := 0, locals := 136 }) D (zT T) [.ref (ad 0), .int x, .int y] (wM ad T σ) 0 0 (qI D (zT T) (fun v0 w => narrow .boolean (.int v0) = .int v0 ∧ ∃ t, mR [eNS] σ (sp_holds σ x y) v0 t ∧ w = wM ad T t)) := by
  have hB0 := hI.bd
  obtain ⟨b0, b1, b2, b3, b4, b5⟩ := hI.bd
  refine zg_of (cc := cX7_holds) (maxL := 3) (ret := (some .boolean)) (by decide) rfl (Nat.le_of_ble_eq_true rfl) (fun p e s m below meth c A hin hr X => ?_)
  have X : zC p s m _ meth c cX7_holds 3 wsX7_holds RX7 D (zT T) A := X
  refine zg_aload_n X dX7_holds_0 rfl ?_
  refine zg_iload_n X dX7_holds_1 rfl ?_
  refine zg_iload_n X dX7_holds_2 rfl ?_
  refine zg_callVi X (k_X7_isNone l D ad T σ hB0 _ _) zFr.rf gX7_holds_X7_isNone rfl rfl rfl qv_X7_isNone rfl ⟨Nat.le_of_ble_eq_true rfl, Nat.le_of_ble_eq_true rfl⟩ (q0 := 0) (ci := 9) rfl rfl rfl (Nat.le_of_ble_eq_true rfl) ⟨Nat.le_of_ble_eq_true rfl, Nat.le_of_ble_eq_true rfl⟩ dX7_holds_3 (fun r w1 hz9 => ?_)
  obtain ⟨rfl, rfl⟩ := hz9
  refine zg_if_neb X dX7_holds_6 (tgt := 22) (by decide) (fun c_6 => ?_) (fun c_6 => ?_)
  · skip
    refine zg_w (w' := wM ad T (uN σ 8 1)) (by rw [if_neg c_6]) ?_
    refine zg_iconst X (v := 0) dX7_holds_22 (by decide) ?_
    exact zg_nret X hr (rfl) dX7_holds_23 (Nat.le_of_ble_eq_true rfl) (Nat.le_of_ble_eq_true rfl) (⟨rfl, ⟨uN σ 8 1, mR_f1 0 (by rw [sp_holds, if_neg c_6]) rfl rfl, rfl⟩⟩)
  · skip
    have pA : pIn x (σ.1 0) ∧ pIn y (σ.1 2) := Classical.not_not.mp c_6
    refine zg_w (w' := wM ad T (uN σ 8 0)) (by rw [if_pos pA]) ?_
    obtain ⟨p0, p1⟩ := pA
    obtain ⟨j0, h0, e0⟩ := pIn_idx (by omega) p0
    subst e0
    have k0 : j0 < 2 ^ 31 := by omega
    obtain ⟨j1, h1, e1⟩ := pIn_idx (by omega) p1
    subst e1
    have k1 : j1 < 2 ^ 31 := by omega
    refine zg_aload_n X dX7_holds_9 rfl ?_
    refine zg_iload_n X dX7_holds_10 rfl ?_
    refine zg_iload_n X dX7_holds_11 rfl ?_
    refine zg_callVi X (k_X7_isHolding l D ad T (uN σ 8 0) hI j0 j1 (by omega) (by omega)) zFr.rf gX7_holds_X7_isHolding rfl rfl rfl qv_X7_isHolding rfl ⟨Nat.le_of_ble_eq_true rfl, Nat.le_of_ble_eq_true rfl⟩ (q0 := 0) (ci := 9) rfl rfl rfl (Nat.le_of_ble_eq_true rfl) ⟨Nat.le_of_ble_eq_true rfl, Nat.le_of_ble_eq_true rfl⟩ dX7_holds_12 (fun r w1 hz9 => ?_)
    obtain ⟨rfl, rfl⟩ := hz9
    refine zg_if_eqb X dX7_holds_15 (tgt := 22) (by decide) (fun c_15 => ?_) (fun c_15 => ?_)
    · skip
      skip
      refine zg_iconst X (v := 0) dX7_holds_22 (by decide) ?_
      exact zg_nret X hr (rfl) dX7_holds_23 (Nat.le_of_ble_eq_true rfl) (Nat.le_of_ble_eq_true rfl) (⟨rfl, ⟨uN σ 8 0, mR_r (by rw [sp_holds, if_pos (And.intro p0 p1), ix_nI k0, ix_nI k1, bI_f (show ¬ hB (holdI σ j1 (-1)) j0 from c_15)] <;> rfl), rfl⟩⟩)
    · skip
      refine zg_iconst X (v := 1) dX7_holds_18 (by decide) ?_
      refine zg_goto X dX7_holds_19 (tgt := 23) (by decide) ?_
      exact zg_nret X hr (rfl) dX7_holds_23 (Nat.le_of_ble_eq_true rfl) (Nat.le_of_ble_eq_true rfl) (⟨rfl, ⟨uN σ 8 0, mR_r (by rw [sp_holds, if_pos (And.intro p0 p1), ix_nI k0, ix_nI k1, bI_t (show hB (holdI σ j1 (-1)) j0 from c_15)] <;> rfl), rfl⟩⟩)

set_option maxHeartbeats 4000000 in
set_option maxRecDepth 100000 in
theorem k_X7_holdsByPaths (l : Launch) (D : va_G) (ad : Nat → Nat) (T : Nat → ClassId) (σ : ZS) (hI : zI σ) (x y : Int32) (hp : sp_holdsByPaths σ x y = sp_holds σ x y) : zM l yX7_holdsByPaths wsX7_holdsByPaths ({ frames := 7, cells := 0, slots := 0, locals := 158 }) D (zT T) [.ref (ad 0), .int x, .int y] (wM ad T σ) 0 0 (qI D (zT T) (fun v0 w => ∃ t, mR [eNS] σ (sp_holdsByPaths σ x y) v0 t ∧ w = wM ad T t)) := by
  refine zg_of (cc := cX7_holdsByPaths) (maxL := 3) (ret := (some .boolean)) (by decide) rfl (Nat.le_of_ble_eq_true rfl) (fun p e s m below meth c A hin hr X => ?_)
  have X : zC p s m _ meth c cX7_holdsByPaths 3 wsX7_holdsByPaths RX7 D (zT T) A := X
  refine zg_aload_n X dX7_holdsByPaths_0 rfl ?_
  refine zg_iload_n X dX7_holdsByPaths_1 rfl ?_
  refine zg_iload_n X dX7_holdsByPaths_2 rfl ?_
  refine zg_callVi X (k_X7_holds l D ad T σ hI x y) zFr.rf gX7_holdsByPaths_X7_holds rfl rfl rfl qv_X7_holds rfl ⟨Nat.le_of_ble_eq_true rfl, Nat.le_of_ble_eq_true rfl⟩ (q0 := 0) (ci := 9) rfl rfl rfl (Nat.le_of_ble_eq_true rfl) ⟨Nat.le_of_ble_eq_true rfl, Nat.le_of_ble_eq_true rfl⟩ dX7_holdsByPaths_3 (fun r w1 hz9 => ?_)
  obtain ⟨hz7, t2, hr2, rfl⟩ := hz9
  exact zg_nret X hr (hz7) dX7_holdsByPaths_6 (Nat.le_of_ble_eq_true rfl) (Nat.le_of_ble_eq_true rfl) (⟨t2, by rw [hp]; exact hr2, rfl⟩)

set_option maxHeartbeats 4000000 in
set_option maxRecDepth 100000 in
theorem k_X7_rightsOf (l : Launch) (D : va_G) (ad : Nat → Nat) (T : Nat → ClassId) (σ : ZS) (hI : zI σ) (x : Int32)  : zM l yX7_rightsOf wsX7_rightsOf ({ frames := 7, cells := 0, slots := 0, locals := 159 }) D (zT T) [.ref (ad 0), .int x] (wM ad T σ) 0 0 (qI D (zT T) (fun v0 w => ∃ t, mR [eNS] σ (sp_rightsOf σ x) v0 t ∧ w = wM ad T t)) := by
  have hB0 := hI.bd
  obtain ⟨b0, b1, b2, b3, b4, b5⟩ := hI.bd
  refine zg_of (cc := cX7_rightsOf) (maxL := 2) (ret := (some .int)) (by decide) rfl (Nat.le_of_ble_eq_true rfl) (fun p e s m below meth c A hin hr X => ?_)
  have X : zC p s m _ meth c cX7_rightsOf 2 wsX7_rightsOf RX7 D (zT T) A := X
  have f7 : ∀ w ∈ u_ws RX7 TX7 37, w ∈ wsX7_rightsOf := by decide +kernel
  have l85 : Cond.fieldLink RX7 85 "RecertifyModel" "thrown" "I" ∈ wsX7_rightsOf := by decide +kernel
  refine zg_aload_n X dX7_rightsOf_0 rfl ?_
  refine zg_iconst X (v := 0) dX7_rightsOf_1 (by decide) ?_
  refine rp_M_thrown X f7 l85 dX7_rightsOf_2 ?_
  refine zg_aload_n X dX7_rightsOf_5 rfl ?_
  refine zg_iload_n X dX7_rightsOf_6 rfl ?_
  refine zg_callVi X (k_X7_isPerson l D ad T (uN σ 8 0) hB0 _) zFr.rf gX7_rightsOf_X7_isPerson rfl rfl rfl qv_X7_isPerson rfl ⟨Nat.le_of_ble_eq_true rfl, Nat.le_of_ble_eq_true rfl⟩ (q0 := 0) (ci := 9) rfl rfl rfl (Nat.le_of_ble_eq_true rfl) ⟨Nat.le_of_ble_eq_true rfl, Nat.le_of_ble_eq_true rfl⟩ dX7_rightsOf_7 (fun r w1 hz9 => ?_)
  obtain ⟨rfl, rfl⟩ := hz9
  refine zg_if_eqb X dX7_rightsOf_10 (tgt := 24) (by decide) (fun c_10 => ?_) (fun c_10 => ?_)
  · skip
    refine zg_aload_n X dX7_rightsOf_24 rfl ?_
    refine zg_iconst X (v := 1) dX7_rightsOf_25 (by decide) ?_
    refine zg_callVi X (k_X7_fails l D ad T (uN σ 8 0) 1) zFr.rf gX7_rightsOf_X7_fails rfl rfl rfl qv_X7_fails rfl ⟨Nat.le_of_ble_eq_true rfl, Nat.le_of_ble_eq_true rfl⟩ (q0 := 0) (ci := 9) rfl rfl rfl (Nat.le_of_ble_eq_true rfl) ⟨Nat.le_of_ble_eq_true rfl, Nat.le_of_ble_eq_true rfl⟩ dX7_rightsOf_26 (fun r w1 hz9 => ?_)
    obtain ⟨rfl, rfl⟩ := hz9
    exact zg_iret X hr dX7_rightsOf_29 (Nat.le_of_ble_eq_true rfl) (Nat.le_of_ble_eq_true rfl) (⟨uN (uN σ 8 0) 8 1, mR_f 0 (by rw [sp_rightsOf, if_neg (show ¬ pIn x (σ.1 0) from c_10)]) rfl rfl, rfl⟩)
  · skip
    have p0 : pIn x (σ.1 0) := c_10
    obtain ⟨j0, h0, e0⟩ := pIn_idx (by omega) p0
    subst e0
    have k0 : j0 < 2 ^ 31 := by omega
    refine zg_aload_n X dX7_rightsOf_13 rfl ?_
    refine zg_iload_n X dX7_rightsOf_14 rfl ?_
    refine zg_callVi X (k_X7_bitsOf l D ad T (uN σ 8 0) hI j0 (by omega)) zFr.rf gX7_rightsOf_X7_bitsOf rfl rfl rfl qv_X7_bitsOf rfl ⟨Nat.le_of_ble_eq_true rfl, Nat.le_of_ble_eq_true rfl⟩ (q0 := 0) (ci := 9) rfl rfl rfl (Nat.le_of_ble_eq_true rfl) ⟨Nat.le_of_ble_eq_true rfl, Nat.le_of_ble_eq_true rfl⟩ dX7_rightsOf_15 (fun r w1 hz9 => ?_)
    obtain ⟨rfl, rfl⟩ := hz9
    refine zg_callSi X (k_X7_size l D ad T (uN σ 8 0) _) zFr.rf gX7_rightsOf_X7_size rfl rfl rfl qd_X7_size rfl ⟨Nat.le_of_ble_eq_true rfl, Nat.le_of_ble_eq_true rfl⟩ rfl (Nat.le_of_ble_eq_true rfl) ⟨Nat.le_of_ble_eq_true rfl, Nat.le_of_ble_eq_true rfl⟩ dX7_rightsOf_18 (fun r w1 hz9 => ?_)
    obtain ⟨rfl, rfl⟩ := hz9
    refine zg_goto X dX7_rightsOf_21 (tgt := 29) (by decide) ?_
    exact zg_iret X hr dX7_rightsOf_29 (Nat.le_of_ble_eq_true rfl) (Nat.le_of_ble_eq_true rfl) (⟨uN σ 8 0, mR_r (by rw [sp_rightsOf, if_pos p0, ix_nI k0, bcnt_sm (rgt_sm hI)] <;> rfl), rfl⟩)

set_option maxHeartbeats 4000000 in
set_option maxRecDepth 100000 in
theorem k_X7_holdersOf (l : Launch) (D : va_G) (ad : Nat → Nat) (T : Nat → ClassId) (σ : ZS) (hI : zI σ) (x : Int32)  : zM l yX7_holdersOf wsX7_holdersOf ({ frames := 5, cells := 0, slots := 0, locals := 114 }) D (zT T) [.ref (ad 0), .int x] (wM ad T σ) 0 0 (qI D (zT T) (fun v0 w => ∃ t, mR [eNS] σ (sp_holdersOf σ x) v0 t ∧ w = wM ad T t)) := by
  have hB0 := hI.bd
  obtain ⟨b0, b1, b2, b3, b4, b5⟩ := hI.bd
  refine zg_of (cc := cX7_holdersOf) (maxL := 2) (ret := (some .int)) (by decide) rfl (Nat.le_of_ble_eq_true rfl) (fun p e s m below meth c A hin hr X => ?_)
  have X : zC p s m _ meth c cX7_holdersOf 2 wsX7_holdersOf RX7 D (zT T) A := X
  have f7 : ∀ w ∈ u_ws RX7 TX7 37, w ∈ wsX7_holdersOf := by decide +kernel
  have l85 : Cond.fieldLink RX7 85 "RecertifyModel" "thrown" "I" ∈ wsX7_holdersOf := by decide +kernel
  refine zg_aload_n X dX7_holdersOf_0 rfl ?_
  refine zg_iconst X (v := 0) dX7_holdersOf_1 (by decide) ?_
  refine rp_M_thrown X f7 l85 dX7_holdersOf_2 ?_
  refine zg_aload_n X dX7_holdersOf_5 rfl ?_
  refine zg_iload_n X dX7_holdersOf_6 rfl ?_
  refine zg_callVi X (k_X7_isRight l D ad T (uN σ 8 0) hB0 _) zFr.rf gX7_holdersOf_X7_isRight rfl rfl rfl qv_X7_isRight rfl ⟨Nat.le_of_ble_eq_true rfl, Nat.le_of_ble_eq_true rfl⟩ (q0 := 0) (ci := 9) rfl rfl rfl (Nat.le_of_ble_eq_true rfl) ⟨Nat.le_of_ble_eq_true rfl, Nat.le_of_ble_eq_true rfl⟩ dX7_holdersOf_7 (fun r w1 hz9 => ?_)
  obtain ⟨rfl, rfl⟩ := hz9
  refine zg_if_eqb X dX7_holdersOf_10 (tgt := 25) (by decide) (fun c_10 => ?_) (fun c_10 => ?_)
  · skip
    refine zg_aload_n X dX7_holdersOf_25 rfl ?_
    refine zg_iconst X (v := 1) dX7_holdersOf_26 (by decide) ?_
    refine zg_callVi X (k_X7_fails l D ad T (uN σ 8 0) 1) zFr.rf gX7_holdersOf_X7_fails rfl rfl rfl qv_X7_fails rfl ⟨Nat.le_of_ble_eq_true rfl, Nat.le_of_ble_eq_true rfl⟩ (q0 := 0) (ci := 9) rfl rfl rfl (Nat.le_of_ble_eq_true rfl) ⟨Nat.le_of_ble_eq_true rfl, Nat.le_of_ble_eq_true rfl⟩ dX7_holdersOf_27 (fun r w1 hz9 => ?_)
    obtain ⟨rfl, rfl⟩ := hz9
    exact zg_iret X hr dX7_holdersOf_30 (Nat.le_of_ble_eq_true rfl) (Nat.le_of_ble_eq_true rfl) (⟨uN (uN σ 8 0) 8 1, mR_f 0 (by rw [sp_holdersOf, if_neg (show ¬ pIn x (σ.1 2) from c_10)]) rfl rfl, rfl⟩)
  · skip
    have p0 : pIn x (σ.1 2) := c_10
    obtain ⟨j0, h0, e0⟩ := pIn_idx (by omega) p0
    subst e0
    have k0 : j0 < 2 ^ 31 := by omega
    refine zg_aload_n X dX7_holdersOf_13 rfl ?_
    refine zg_iload_n X dX7_holdersOf_14 rfl ?_
    refine zg_iconst X (v := (-1)) dX7_holdersOf_15 (by decide) ?_
    refine zg_callVi X (k_X7_holdersBut l D ad T (uN σ 8 0) hI j0 (by omega) (-1)) zFr.rf gX7_holdersOf_X7_holdersBut rfl rfl rfl qv_X7_holdersBut rfl ⟨Nat.le_of_ble_eq_true rfl, Nat.le_of_ble_eq_true rfl⟩ (q0 := 0) (ci := 9) rfl rfl rfl (Nat.le_of_ble_eq_true rfl) ⟨Nat.le_of_ble_eq_true rfl, Nat.le_of_ble_eq_true rfl⟩ dX7_holdersOf_16 (fun r w1 hz9 => ?_)
    obtain ⟨rfl, rfl⟩ := hz9
    refine zg_callSi X (k_X7_size l D ad T (uN σ 8 0) _) zFr.rf gX7_holdersOf_X7_size rfl rfl rfl qd_X7_size rfl ⟨Nat.le_of_ble_eq_true rfl, Nat.le_of_ble_eq_true rfl⟩ rfl (Nat.le_of_ble_eq_true rfl) ⟨Nat.le_of_ble_eq_true rfl, Nat.le_of_ble_eq_true rfl⟩ dX7_holdersOf_19 (fun r w1 hz9 => ?_)
    obtain ⟨rfl, rfl⟩ := hz9
    refine zg_goto X dX7_holdersOf_22 (tgt := 30) (by decide) ?_
    exact zg_iret X hr dX7_holdersOf_30 (Nat.le_of_ble_eq_true rfl) (Nat.le_of_ble_eq_true rfl) (⟨uN σ 8 0, mR_r (by rw [sp_holdersOf, if_pos p0, ix_nI k0, bcnt_sm (hold_sm hI)] <;> rfl), rfl⟩)

set_option maxHeartbeats 4000000 in
set_option maxRecDepth 100000 in
theorem k_X7_rightBits (l : Launch) (D : va_G) (ad : Nat → Nat) (T : Nat → ClassId) (σ : ZS) (hI : zI σ) (x : Int32)  : zM l yX7_rightBits wsX7_rightBits ({ frames := 7, cells := 0, slots := 0, locals := 159 }) D (zT T) [.ref (ad 0), .int x] (wM ad T σ) 0 0 (qI D (zT T) (fun v0 w => ∃ t, mR [eNS] σ (sp_rightBits σ x) v0 t ∧ w = wM ad T t)) := by
  have hB0 := hI.bd
  obtain ⟨b0, b1, b2, b3, b4, b5⟩ := hI.bd
  refine zg_of (cc := cX7_rightBits) (maxL := 2) (ret := (some .int)) (by decide) rfl (Nat.le_of_ble_eq_true rfl) (fun p e s m below meth c A hin hr X => ?_)
  have X : zC p s m _ meth c cX7_rightBits 2 wsX7_rightBits RX7 D (zT T) A := X
  have f7 : ∀ w ∈ u_ws RX7 TX7 37, w ∈ wsX7_rightBits := by decide +kernel
  have l85 : Cond.fieldLink RX7 85 "RecertifyModel" "thrown" "I" ∈ wsX7_rightBits := by decide +kernel
  refine zg_aload_n X dX7_rightBits_0 rfl ?_
  refine zg_iconst X (v := 0) dX7_rightBits_1 (by decide) ?_
  refine rp_M_thrown X f7 l85 dX7_rightBits_2 ?_
  refine zg_aload_n X dX7_rightBits_5 rfl ?_
  refine zg_iload_n X dX7_rightBits_6 rfl ?_
  refine zg_callVi X (k_X7_isPerson l D ad T (uN σ 8 0) hB0 _) zFr.rf gX7_rightBits_X7_isPerson rfl rfl rfl qv_X7_isPerson rfl ⟨Nat.le_of_ble_eq_true rfl, Nat.le_of_ble_eq_true rfl⟩ (q0 := 0) (ci := 9) rfl rfl rfl (Nat.le_of_ble_eq_true rfl) ⟨Nat.le_of_ble_eq_true rfl, Nat.le_of_ble_eq_true rfl⟩ dX7_rightBits_7 (fun r w1 hz9 => ?_)
  obtain ⟨rfl, rfl⟩ := hz9
  refine zg_if_eqb X dX7_rightBits_10 (tgt := 21) (by decide) (fun c_10 => ?_) (fun c_10 => ?_)
  · skip
    refine zg_aload_n X dX7_rightBits_21 rfl ?_
    refine zg_iconst X (v := 1) dX7_rightBits_22 (by decide) ?_
    refine zg_callVi X (k_X7_fails l D ad T (uN σ 8 0) 1) zFr.rf gX7_rightBits_X7_fails rfl rfl rfl qv_X7_fails rfl ⟨Nat.le_of_ble_eq_true rfl, Nat.le_of_ble_eq_true rfl⟩ (q0 := 0) (ci := 9) rfl rfl rfl (Nat.le_of_ble_eq_true rfl) ⟨Nat.le_of_ble_eq_true rfl, Nat.le_of_ble_eq_true rfl⟩ dX7_rightBits_23 (fun r w1 hz9 => ?_)
    obtain ⟨rfl, rfl⟩ := hz9
    exact zg_iret X hr dX7_rightBits_26 (Nat.le_of_ble_eq_true rfl) (Nat.le_of_ble_eq_true rfl) (⟨uN (uN σ 8 0) 8 1, mR_f 0 (by rw [sp_rightBits, if_neg (show ¬ pIn x (σ.1 0) from c_10)]) rfl rfl, rfl⟩)
  · skip
    have p0 : pIn x (σ.1 0) := c_10
    obtain ⟨j0, h0, e0⟩ := pIn_idx (by omega) p0
    subst e0
    have k0 : j0 < 2 ^ 31 := by omega
    refine zg_aload_n X dX7_rightBits_13 rfl ?_
    refine zg_iload_n X dX7_rightBits_14 rfl ?_
    refine zg_callVi X (k_X7_bitsOf l D ad T (uN σ 8 0) hI j0 (by omega)) zFr.rf gX7_rightBits_X7_bitsOf rfl rfl rfl qv_X7_bitsOf rfl ⟨Nat.le_of_ble_eq_true rfl, Nat.le_of_ble_eq_true rfl⟩ (q0 := 0) (ci := 9) rfl rfl rfl (Nat.le_of_ble_eq_true rfl) ⟨Nat.le_of_ble_eq_true rfl, Nat.le_of_ble_eq_true rfl⟩ dX7_rightBits_15 (fun r w1 hz9 => ?_)
    obtain ⟨rfl, rfl⟩ := hz9
    refine zg_goto X dX7_rightBits_18 (tgt := 26) (by decide) ?_
    exact zg_iret X hr dX7_rightBits_26 (Nat.le_of_ble_eq_true rfl) (Nat.le_of_ble_eq_true rfl) (⟨uN σ 8 0, mR_r (by rw [sp_rightBits, if_pos p0, ix_nI k0] <;> rfl), rfl⟩)

set_option maxHeartbeats 4000000 in
set_option maxRecDepth 100000 in
theorem k_X7_apart (l : Launch) (D : va_G) (ad : Nat → Nat) (T : Nat → ClassId) (σ : ZS) (hI : zI σ) (x y : Int32)  : zM l yX7_apart wsX7_apart ({ frames := 7, cells := 0, slots := 0, locals := 159 }) D (zT T) [.ref (ad 0), .int x, .int y] (wM ad T σ) 0 0 (qI D (zT T) (fun v0 w => ∃ t, mR [eNS] σ (sp_apart σ x y) v0 t ∧ w = wM ad T t)) := by
  have hB0 := hI.bd
  obtain ⟨b0, b1, b2, b3, b4, b5⟩ := hI.bd
  refine zg_of (cc := cX7_apart) (maxL := 3) (ret := (some .int)) (by decide) rfl (Nat.le_of_ble_eq_true rfl) (fun p e s m below meth c A hin hr X => ?_)
  have X : zC p s m _ meth c cX7_apart 3 wsX7_apart RX7 D (zT T) A := X
  have f7 : ∀ w ∈ u_ws RX7 TX7 37, w ∈ wsX7_apart := by decide +kernel
  have l85 : Cond.fieldLink RX7 85 "RecertifyModel" "thrown" "I" ∈ wsX7_apart := by decide +kernel
  refine zg_aload_n X dX7_apart_0 rfl ?_
  refine zg_iconst X (v := 0) dX7_apart_1 (by decide) ?_
  refine rp_M_thrown X f7 l85 dX7_apart_2 ?_
  refine zg_aload_n X dX7_apart_5 rfl ?_
  refine zg_iload_n X dX7_apart_6 rfl ?_
  refine zg_callVi X (k_X7_isPerson l D ad T (uN σ 8 0) hB0 _) zFr.rf gX7_apart_X7_isPerson rfl rfl rfl qv_X7_isPerson rfl ⟨Nat.le_of_ble_eq_true rfl, Nat.le_of_ble_eq_true rfl⟩ (q0 := 0) (ci := 9) rfl rfl rfl (Nat.le_of_ble_eq_true rfl) ⟨Nat.le_of_ble_eq_true rfl, Nat.le_of_ble_eq_true rfl⟩ dX7_apart_7 (fun r w1 hz9 => ?_)
  obtain ⟨rfl, rfl⟩ := hz9
  refine zg_if_eqb X dX7_apart_10 (tgt := 38) (by decide) (fun c_10 => ?_) (fun c_10 => ?_)
  · skip
    refine zg_aload_n X dX7_apart_38 rfl ?_
    refine zg_iconst X (v := 1) dX7_apart_39 (by decide) ?_
    refine zg_callVi X (k_X7_fails l D ad T (uN σ 8 0) 1) zFr.rf gX7_apart_X7_fails rfl rfl rfl qv_X7_fails rfl ⟨Nat.le_of_ble_eq_true rfl, Nat.le_of_ble_eq_true rfl⟩ (q0 := 0) (ci := 9) rfl rfl rfl (Nat.le_of_ble_eq_true rfl) ⟨Nat.le_of_ble_eq_true rfl, Nat.le_of_ble_eq_true rfl⟩ dX7_apart_40 (fun r w1 hz9 => ?_)
    obtain ⟨rfl, rfl⟩ := hz9
    exact zg_iret X hr dX7_apart_43 (Nat.le_of_ble_eq_true rfl) (Nat.le_of_ble_eq_true rfl) (⟨uN (uN σ 8 0) 8 1, mR_f 0 (by rw [sp_apart, if_neg (fun q => c_10 q.1)]) rfl rfl, rfl⟩)
  · skip
    have p0 : pIn x (σ.1 0) := c_10
    obtain ⟨j0, h0, e0⟩ := pIn_idx (by omega) p0
    subst e0
    have k0 : j0 < 2 ^ 31 := by omega
    refine zg_aload_n X dX7_apart_13 rfl ?_
    refine zg_iload_n X dX7_apart_14 rfl ?_
    refine zg_callVi X (k_X7_isPerson l D ad T (uN σ 8 0) hB0 _) zFr.rf gX7_apart_X7_isPerson rfl rfl rfl qv_X7_isPerson rfl ⟨Nat.le_of_ble_eq_true rfl, Nat.le_of_ble_eq_true rfl⟩ (q0 := 0) (ci := 9) rfl rfl rfl (Nat.le_of_ble_eq_true rfl) ⟨Nat.le_of_ble_eq_true rfl, Nat.le_of_ble_eq_true rfl⟩ dX7_apart_15 (fun r w1 hz9 => ?_)
    obtain ⟨rfl, rfl⟩ := hz9
    refine zg_if_eqb X dX7_apart_18 (tgt := 38) (by decide) (fun c_18 => ?_) (fun c_18 => ?_)
    · skip
      refine zg_aload_n X dX7_apart_38 rfl ?_
      refine zg_iconst X (v := 1) dX7_apart_39 (by decide) ?_
      refine zg_callVi X (k_X7_fails l D ad T (uN σ 8 0) 1) zFr.rf gX7_apart_X7_fails rfl rfl rfl qv_X7_fails rfl ⟨Nat.le_of_ble_eq_true rfl, Nat.le_of_ble_eq_true rfl⟩ (q0 := 0) (ci := 9) rfl rfl rfl (Nat.le_of_ble_eq_true rfl) ⟨Nat.le_of_ble_eq_true rfl, Nat.le_of_ble_eq_true rfl⟩ dX7_apart_40 (fun r w1 hz9 => ?_)
      obtain ⟨rfl, rfl⟩ := hz9
      exact zg_iret X hr dX7_apart_43 (Nat.le_of_ble_eq_true rfl) (Nat.le_of_ble_eq_true rfl) (⟨uN (uN σ 8 0) 8 1, mR_f 0 (by rw [sp_apart, if_neg (fun q => c_18 q.2)]) rfl rfl, rfl⟩)
    · skip
      have p1 : pIn y (σ.1 0) := c_18
      obtain ⟨j1, h1, e1⟩ := pIn_idx (by omega) p1
      subst e1
      have k1 : j1 < 2 ^ 31 := by omega
      refine zg_aload_n X dX7_apart_21 rfl ?_
      refine zg_iload_n X dX7_apart_22 rfl ?_
      refine zg_callVi X (k_X7_bitsOf l D ad T (uN σ 8 0) hI j0 (by omega)) zFr.rf gX7_apart_X7_bitsOf rfl rfl rfl qv_X7_bitsOf rfl ⟨Nat.le_of_ble_eq_true rfl, Nat.le_of_ble_eq_true rfl⟩ (q0 := 0) (ci := 9) rfl rfl rfl (Nat.le_of_ble_eq_true rfl) ⟨Nat.le_of_ble_eq_true rfl, Nat.le_of_ble_eq_true rfl⟩ dX7_apart_23 (fun r w1 hz9 => ?_)
      obtain ⟨rfl, rfl⟩ := hz9
      refine zg_aload_n X dX7_apart_26 rfl ?_
      refine zg_iload_n X dX7_apart_27 rfl ?_
      refine zg_callVi X (k_X7_bitsOf l D ad T (uN σ 8 0) hI j1 (by omega)) zFr.rf gX7_apart_X7_bitsOf rfl rfl rfl qv_X7_bitsOf rfl ⟨Nat.le_of_ble_eq_true rfl, Nat.le_of_ble_eq_true rfl⟩ (q0 := 0) (ci := 9) rfl rfl rfl (Nat.le_of_ble_eq_true rfl) ⟨Nat.le_of_ble_eq_true rfl, Nat.le_of_ble_eq_true rfl⟩ dX7_apart_28 (fun r w1 hz9 => ?_)
      obtain ⟨rfl, rfl⟩ := hz9
      refine zg_ixor X dX7_apart_31 ?_
      refine zg_callSi X (k_X7_size l D ad T (uN σ 8 0) _) zFr.rf gX7_apart_X7_size rfl rfl rfl qd_X7_size rfl ⟨Nat.le_of_ble_eq_true rfl, Nat.le_of_ble_eq_true rfl⟩ rfl (Nat.le_of_ble_eq_true rfl) ⟨Nat.le_of_ble_eq_true rfl, Nat.le_of_ble_eq_true rfl⟩ dX7_apart_32 (fun r w1 hz9 => ?_)
      obtain ⟨rfl, rfl⟩ := hz9
      refine zg_goto X dX7_apart_35 (tgt := 43) (by decide) ?_
      exact zg_iret X hr dX7_apart_43 (Nat.le_of_ble_eq_true rfl) (Nat.le_of_ble_eq_true rfl) (⟨uN σ 8 0, mR_r (by rw [sp_apart, if_pos (And.intro p0 p1), ix_nI k0, ix_nI k1, bcnt_sm (zSm_xor (rgt_sm hI) (rgt_sm hI))] <;> rfl), rfl⟩)

set_option maxHeartbeats 4000000 in
set_option maxRecDepth 100000 in
theorem k_X7_isDenied (l : Launch) (D : va_G) (ad : Nat → Nat) (T : Nat → ClassId) (σ : ZS) (hI : zI σ) (x y : Int32)  : zM l yX7_isDenied wsX7_isDenied ({ frames := 3, cells := 0, slots := 0, locals := 65 }) D (zT T) [.ref (ad 0), .int x, .int y] (wM ad T σ) 0 0 (qI D (zT T) (fun v0 w => ∃ t, mR [eNS] σ (sp_isDenied σ x y) v0 t ∧ w = wM ad T t)) := by
  have hB0 := hI.bd
  obtain ⟨b0, b1, b2, b3, b4, b5⟩ := hI.bd
  refine zg_of (cc := cX7_isDenied) (maxL := 3) (ret := (some .boolean)) (by decide) rfl (Nat.le_of_ble_eq_true rfl) (fun p e s m below meth c A hin hr X => ?_)
  have X : zC p s m _ meth c cX7_isDenied 3 wsX7_isDenied RX7 D (zT T) A := X
  have f7 : ∀ w ∈ u_ws RX7 TX7 37, w ∈ wsX7_isDenied := by decide +kernel
  have l34 : Cond.fieldLink RX7 34 "RecertifyModel" "denied" "[I" ∈ wsX7_isDenied := by decide +kernel
  refine zg_aload_n X dX7_isDenied_0 rfl ?_
  refine zg_iload_n X dX7_isDenied_1 rfl ?_
  refine zg_iload_n X dX7_isDenied_2 rfl ?_
  refine zg_callVi X (k_X7_isNone l D ad T σ hB0 _ _) zFr.rf gX7_isDenied_X7_isNone rfl rfl rfl qv_X7_isNone rfl ⟨Nat.le_of_ble_eq_true rfl, Nat.le_of_ble_eq_true rfl⟩ (q0 := 0) (ci := 9) rfl rfl rfl (Nat.le_of_ble_eq_true rfl) ⟨Nat.le_of_ble_eq_true rfl, Nat.le_of_ble_eq_true rfl⟩ dX7_isDenied_3 (fun r w1 hz9 => ?_)
  obtain ⟨rfl, rfl⟩ := hz9
  refine zg_if_neb X dX7_isDenied_6 (tgt := 26) (by decide) (fun c_6 => ?_) (fun c_6 => ?_)
  · skip
    refine zg_w (w' := wM ad T (uN σ 8 1)) (by rw [if_neg c_6]) ?_
    refine zg_iconst X (v := 0) dX7_isDenied_26 (by decide) ?_
    exact zg_nret X hr (rfl) dX7_isDenied_27 (Nat.le_of_ble_eq_true rfl) (Nat.le_of_ble_eq_true rfl) (⟨uN σ 8 1, mR_f1 0 (by rw [sp_isDenied, if_neg c_6]) rfl rfl, rfl⟩)
  · skip
    have pA : pIn x (σ.1 0) ∧ pIn y (σ.1 2) := Classical.not_not.mp c_6
    refine zg_w (w' := wM ad T (uN σ 8 0)) (by rw [if_pos pA]) ?_
    obtain ⟨p0, p1⟩ := pA
    obtain ⟨j0, h0, e0⟩ := pIn_idx (by omega) p0
    subst e0
    have k0 : j0 < 2 ^ 31 := by omega
    obtain ⟨j1, h1, e1⟩ := pIn_idx (by omega) p1
    subst e1
    have k1 : j1 < 2 ^ 31 := by omega
    refine zg_aload_n X dX7_isDenied_9 rfl ?_
    refine rg_M_denied X f7 l34 dX7_isDenied_10 ?_
    refine zg_iload_n X dX7_isDenied_13 rfl ?_
    refine rlM_denied X (by omega) dX7_isDenied_14 ?_
    refine zg_iload_n X dX7_isDenied_15 rfl ?_
    refine zg_callSi X (k_X7_has l D ad T (uN σ 8 0) _ j0 (by omega)) zFr.rf gX7_isDenied_X7_has rfl rfl rfl qd_X7_has rfl ⟨Nat.le_of_ble_eq_true rfl, Nat.le_of_ble_eq_true rfl⟩ rfl (Nat.le_of_ble_eq_true rfl) ⟨Nat.le_of_ble_eq_true rfl, Nat.le_of_ble_eq_true rfl⟩ dX7_isDenied_16 (fun r w1 hz9 => ?_)
    obtain ⟨rfl, rfl⟩ := hz9
    refine zg_if_eqb X dX7_isDenied_19 (tgt := 26) (by decide) (fun c_19 => ?_) (fun c_19 => ?_)
    · skip
      skip
      refine zg_iconst X (v := 0) dX7_isDenied_26 (by decide) ?_
      exact zg_nret X hr (rfl) dX7_isDenied_27 (Nat.le_of_ble_eq_true rfl) (Nat.le_of_ble_eq_true rfl) (⟨uN σ 8 0, mR_r (by rw [sp_isDenied, if_pos (And.intro p0 p1), ix_nI k0, ix_nI k1, bI_f (show ¬ hB (σ.2.2 8 j1) j0 from c_19)] <;> rfl), rfl⟩)
    · skip
      refine zg_iconst X (v := 1) dX7_isDenied_22 (by decide) ?_
      refine zg_goto X dX7_isDenied_23 (tgt := 27) (by decide) ?_
      exact zg_nret X hr (rfl) dX7_isDenied_27 (Nat.le_of_ble_eq_true rfl) (Nat.le_of_ble_eq_true rfl) (⟨uN σ 8 0, mR_r (by rw [sp_isDenied, if_pos (And.intro p0 p1), ix_nI k0, ix_nI k1, bI_t (show hB (σ.2.2 8 j1) j0 from c_19)] <;> rfl), rfl⟩)

set_option maxHeartbeats 4000000 in
set_option maxRecDepth 100000 in
theorem k_X7_riskOf (l : Launch) (D : va_G) (ad : Nat → Nat) (T : Nat → ClassId) (σ : ZS) (hI : zI σ) (x : Int32)  : zM l yX7_riskOf wsX7_riskOf ({ frames := 7, cells := 0, slots := 0, locals := 164 }) D (zT T) [.ref (ad 0), .int x] (wM ad T σ) 0 0 (qI D (zT T) (fun v0 w => ∃ t, mR [eNS, eIS] σ (sp_riskOf σ x) v0 t ∧ w = wM ad T t)) := by
  have hB0 := hI.bd
  obtain ⟨b0, b1, b2, b3, b4, b5⟩ := hI.bd
  refine zg_of (cc := cX7_riskOf) (maxL := 2) (ret := (some .int)) (by decide) rfl (Nat.le_of_ble_eq_true rfl) (fun p e s m below meth c A hin hr X => ?_)
  have X : zC p s m _ meth c cX7_riskOf 2 wsX7_riskOf RX7 D (zT T) A := X
  have f7 : ∀ w ∈ u_ws RX7 TX7 37, w ∈ wsX7_riskOf := by decide +kernel
  have l56 : Cond.fieldLink RX7 56 "RecertifyModel" "states" "[C" ∈ wsX7_riskOf := by decide +kernel
  have l85 : Cond.fieldLink RX7 85 "RecertifyModel" "thrown" "I" ∈ wsX7_riskOf := by decide +kernel
  refine zg_aload_n X dX7_riskOf_0 rfl ?_
  refine zg_iconst X (v := 0) dX7_riskOf_1 (by decide) ?_
  refine rp_M_thrown X f7 l85 dX7_riskOf_2 ?_
  refine zg_aload_n X dX7_riskOf_5 rfl ?_
  refine zg_iload_n X dX7_riskOf_6 rfl ?_
  refine zg_callVi X (k_X7_isGrant l D ad T (uN σ 8 0) hB0 _) zFr.rf gX7_riskOf_X7_isGrant rfl rfl rfl qv_X7_isGrant rfl ⟨Nat.le_of_ble_eq_true rfl, Nat.le_of_ble_eq_true rfl⟩ (q0 := 0) (ci := 9) rfl rfl rfl (Nat.le_of_ble_eq_true rfl) ⟨Nat.le_of_ble_eq_true rfl, Nat.le_of_ble_eq_true rfl⟩ dX7_riskOf_7 (fun r w1 hz9 => ?_)
  obtain ⟨rfl, rfl⟩ := hz9
  refine zg_if_neb X dX7_riskOf_10 (tgt := 19) (by decide) (fun c_10 => ?_) (fun c_10 => ?_)
  · skip
    have p0 : pIn x (σ.1 3) := c_10
    obtain ⟨j0, h0, e0⟩ := pIn_idx (by omega) p0
    subst e0
    have k0 : j0 < 2 ^ 31 := by omega
    refine zg_aload_n X dX7_riskOf_19 rfl ?_
    refine rg_M_states X f7 l56 dX7_riskOf_20 ?_
    refine zg_iload_n X dX7_riskOf_23 rfl ?_
    refine rlM_states X (by omega) dX7_riskOf_24 ?_
    refine zg_bipush X (v := 120) dX7_riskOf_25 (by decide) ?_
    refine zg_icmp_ne X dX7_riskOf_27 (tgt := 38) (by decide) (fun c_27 => ?_) (fun c_27 => ?_)
    · skip
      refine zg_aload_n X dX7_riskOf_38 rfl ?_
      refine zg_iload_n X dX7_riskOf_39 rfl ?_
      refine zg_callVi X (k_X7_riskOfGrant l D ad T (uN σ 8 0) hI j0 h0) zFr.rf gX7_riskOf_X7_riskOfGrant rfl rfl rfl qv_X7_riskOfGrant rfl ⟨Nat.le_of_ble_eq_true rfl, Nat.le_of_ble_eq_true rfl⟩ (q0 := 0) (ci := 9) rfl rfl rfl (Nat.le_of_ble_eq_true rfl) ⟨Nat.le_of_ble_eq_true rfl, Nat.le_of_ble_eq_true rfl⟩ dX7_riskOf_40 (fun r w1 hz9 => ?_)
      obtain ⟨rfl, rfl⟩ := hz9
      exact zg_iret X hr dX7_riskOf_43 (Nat.le_of_ble_eq_true rfl) (Nat.le_of_ble_eq_true rfl) (⟨uN σ 8 0, mR_r (by rw [sp_riskOf, if_pos p0, ix_nI k0, if_neg (show ¬ σ.2.2 11 j0 = 120 from c_27)] <;> rfl), rfl⟩)
    · skip
      refine zg_aload_n X dX7_riskOf_30 rfl ?_
      refine zg_iconst X (v := 2) dX7_riskOf_31 (by decide) ?_
      refine zg_callVi X (k_X7_fails l D ad T (uN σ 8 0) 2) zFr.rf gX7_riskOf_X7_fails rfl rfl rfl qv_X7_fails rfl ⟨Nat.le_of_ble_eq_true rfl, Nat.le_of_ble_eq_true rfl⟩ (q0 := 0) (ci := 9) rfl rfl rfl (Nat.le_of_ble_eq_true rfl) ⟨Nat.le_of_ble_eq_true rfl, Nat.le_of_ble_eq_true rfl⟩ dX7_riskOf_32 (fun r w1 hz9 => ?_)
      obtain ⟨rfl, rfl⟩ := hz9
      refine zg_goto X dX7_riskOf_35 (tgt := 43) (by decide) ?_
      exact zg_iret X hr dX7_riskOf_43 (Nat.le_of_ble_eq_true rfl) (Nat.le_of_ble_eq_true rfl) (⟨uN (uN σ 8 0) 8 2, mR_f 1 (by rw [sp_riskOf, if_pos p0, ix_nI k0, if_pos (show σ.2.2 11 j0 = 120 from c_27)]) rfl rfl, rfl⟩)
  · skip
    refine zg_aload_n X dX7_riskOf_13 rfl ?_
    refine zg_iconst X (v := 1) dX7_riskOf_14 (by decide) ?_
    refine zg_callVi X (k_X7_fails l D ad T (uN σ 8 0) 1) zFr.rf gX7_riskOf_X7_fails rfl rfl rfl qv_X7_fails rfl ⟨Nat.le_of_ble_eq_true rfl, Nat.le_of_ble_eq_true rfl⟩ (q0 := 0) (ci := 9) rfl rfl rfl (Nat.le_of_ble_eq_true rfl) ⟨Nat.le_of_ble_eq_true rfl, Nat.le_of_ble_eq_true rfl⟩ dX7_riskOf_15 (fun r w1 hz9 => ?_)
    obtain ⟨rfl, rfl⟩ := hz9
    exact zg_iret X hr dX7_riskOf_18 (Nat.le_of_ble_eq_true rfl) (Nat.le_of_ble_eq_true rfl) (⟨uN (uN σ 8 0) 8 1, mR_f 0 (by rw [sp_riskOf, if_neg (show ¬ pIn x (σ.1 3) from c_10)]) rfl rfl, rfl⟩)

set_option maxHeartbeats 4000000 in
set_option maxRecDepth 100000 in
theorem k_X7_riskFor (l : Launch) (D : va_G) (ad : Nat → Nat) (T : Nat → ClassId) (σ : ZS) (hI : zI σ) (x y : Int32)  : zM l yX7_riskFor wsX7_riskFor ({ frames := 6, cells := 0, slots := 0, locals := 140 }) D (zT T) [.ref (ad 0), .int x, .int y] (wM ad T σ) 0 0 (qI D (zT T) (fun v0 w => ∃ t, mR [eNS] σ (sp_riskFor σ x y) v0 t ∧ w = wM ad T t)) := by
  have hB0 := hI.bd
  obtain ⟨b0, b1, b2, b3, b4, b5⟩ := hI.bd
  refine zg_of (cc := cX7_riskFor) (maxL := 3) (ret := (some .int)) (by decide) rfl (Nat.le_of_ble_eq_true rfl) (fun p e s m below meth c A hin hr X => ?_)
  have X : zC p s m _ meth c cX7_riskFor 3 wsX7_riskFor RX7 D (zT T) A := X
  refine zg_aload_n X dX7_riskFor_0 rfl ?_
  refine zg_iload_n X dX7_riskFor_1 rfl ?_
  refine zg_iload_n X dX7_riskFor_2 rfl ?_
  refine zg_callVi X (k_X7_isNone l D ad T σ hB0 _ _) zFr.rf gX7_riskFor_X7_isNone rfl rfl rfl qv_X7_isNone rfl ⟨Nat.le_of_ble_eq_true rfl, Nat.le_of_ble_eq_true rfl⟩ (q0 := 0) (ci := 9) rfl rfl rfl (Nat.le_of_ble_eq_true rfl) ⟨Nat.le_of_ble_eq_true rfl, Nat.le_of_ble_eq_true rfl⟩ dX7_riskFor_3 (fun r w1 hz9 => ?_)
  obtain ⟨rfl, rfl⟩ := hz9
  refine zg_if_eqb X dX7_riskFor_6 (tgt := 13) (by decide) (fun c_6 => ?_) (fun c_6 => ?_)
  · skip
    have pA : pIn x (σ.1 0) ∧ pIn y (σ.1 2) := Classical.not_not.mp c_6
    refine zg_w (w' := wM ad T (uN σ 8 0)) (by rw [if_pos pA]) ?_
    obtain ⟨p0, p1⟩ := pA
    obtain ⟨j0, h0, e0⟩ := pIn_idx (by omega) p0
    subst e0
    have k0 : j0 < 2 ^ 31 := by omega
    obtain ⟨j1, h1, e1⟩ := pIn_idx (by omega) p1
    subst e1
    have k1 : j1 < 2 ^ 31 := by omega
    refine zg_aload_n X dX7_riskFor_13 rfl ?_
    refine zg_iload_n X dX7_riskFor_14 rfl ?_
    refine zg_iload_n X dX7_riskFor_15 rfl ?_
    refine zg_callVi X (k_X7_riskBy l D ad T (uN σ 8 0) hI j0 j1 h0 (by omega)) zFr.rf gX7_riskFor_X7_riskBy rfl rfl rfl qv_X7_riskBy rfl ⟨Nat.le_of_ble_eq_true rfl, Nat.le_of_ble_eq_true rfl⟩ (q0 := 0) (ci := 9) rfl rfl rfl (Nat.le_of_ble_eq_true rfl) ⟨Nat.le_of_ble_eq_true rfl, Nat.le_of_ble_eq_true rfl⟩ dX7_riskFor_16 (fun r w1 hz9 => ?_)
    obtain ⟨rfl, rfl⟩ := hz9
    exact zg_iret X hr dX7_riskFor_19 (Nat.le_of_ble_eq_true rfl) (Nat.le_of_ble_eq_true rfl) (⟨uN σ 8 0, mR_r (by rw [sp_riskFor, if_pos (And.intro p0 p1), ix_nI k0, ix_nI k1] <;> rfl), rfl⟩)
  · skip
    refine zg_w (w' := wM ad T (uN σ 8 1)) (by rw [if_neg c_6]) ?_
    refine zg_iconst X (v := 0) dX7_riskFor_9 (by decide) ?_
    refine zg_goto X dX7_riskFor_10 (tgt := 19) (by decide) ?_
    exact zg_iret X hr dX7_riskFor_19 (Nat.le_of_ble_eq_true rfl) (Nat.le_of_ble_eq_true rfl) (⟨uN σ 8 1, mR_f1 0 (by rw [sp_riskFor, if_neg c_6]) rfl rfl, rfl⟩)

set_option maxHeartbeats 4000000 in
set_option maxRecDepth 100000 in
theorem k_X7_reviewerOf (l : Launch) (D : va_G) (ad : Nat → Nat) (T : Nat → ClassId) (σ : ZS) (hI : zI σ) (x : Int32)  : zM l yX7_reviewerOf wsX7_reviewerOf ({ frames := 3, cells := 0, slots := 0, locals := 70 }) D (zT T) [.ref (ad 0), .int x] (wM ad T σ) 0 0 (qI D (zT T) (fun v0 w => ∃ t, mR [eNS] σ (sp_reviewerOf σ x) v0 t ∧ w = wM ad T t)) := by
  have hB0 := hI.bd
  obtain ⟨b0, b1, b2, b3, b4, b5⟩ := hI.bd
  refine zg_of (cc := cX7_reviewerOf) (maxL := 2) (ret := (some .int)) (by decide) rfl (Nat.le_of_ble_eq_true rfl) (fun p e s m below meth c A hin hr X => ?_)
  have X : zC p s m _ meth c cX7_reviewerOf 2 wsX7_reviewerOf RX7 D (zT T) A := X
  have f7 : ∀ w ∈ u_ws RX7 TX7 37, w ∈ wsX7_reviewerOf := by decide +kernel
  have l85 : Cond.fieldLink RX7 85 "RecertifyModel" "thrown" "I" ∈ wsX7_reviewerOf := by decide +kernel
  refine zg_aload_n X dX7_reviewerOf_0 rfl ?_
  refine zg_iconst X (v := 0) dX7_reviewerOf_1 (by decide) ?_
  refine rp_M_thrown X f7 l85 dX7_reviewerOf_2 ?_
  refine zg_aload_n X dX7_reviewerOf_5 rfl ?_
  refine zg_iload_n X dX7_reviewerOf_6 rfl ?_
  refine zg_callVi X (k_X7_isGrant l D ad T (uN σ 8 0) hB0 _) zFr.rf gX7_reviewerOf_X7_isGrant rfl rfl rfl qv_X7_isGrant rfl ⟨Nat.le_of_ble_eq_true rfl, Nat.le_of_ble_eq_true rfl⟩ (q0 := 0) (ci := 9) rfl rfl rfl (Nat.le_of_ble_eq_true rfl) ⟨Nat.le_of_ble_eq_true rfl, Nat.le_of_ble_eq_true rfl⟩ dX7_reviewerOf_7 (fun r w1 hz9 => ?_)
  obtain ⟨rfl, rfl⟩ := hz9
  refine zg_if_eqb X dX7_reviewerOf_10 (tgt := 21) (by decide) (fun c_10 => ?_) (fun c_10 => ?_)
  · skip
    refine zg_aload_n X dX7_reviewerOf_21 rfl ?_
    refine zg_iconst X (v := 1) dX7_reviewerOf_22 (by decide) ?_
    refine zg_callVi X (k_X7_fails l D ad T (uN σ 8 0) 1) zFr.rf gX7_reviewerOf_X7_fails rfl rfl rfl qv_X7_fails rfl ⟨Nat.le_of_ble_eq_true rfl, Nat.le_of_ble_eq_true rfl⟩ (q0 := 0) (ci := 9) rfl rfl rfl (Nat.le_of_ble_eq_true rfl) ⟨Nat.le_of_ble_eq_true rfl, Nat.le_of_ble_eq_true rfl⟩ dX7_reviewerOf_23 (fun r w1 hz9 => ?_)
    obtain ⟨rfl, rfl⟩ := hz9
    exact zg_iret X hr dX7_reviewerOf_26 (Nat.le_of_ble_eq_true rfl) (Nat.le_of_ble_eq_true rfl) (⟨uN (uN σ 8 0) 8 1, mR_f 0 (by rw [sp_reviewerOf, if_neg (show ¬ pIn x (σ.1 3) from c_10)]) rfl rfl, rfl⟩)
  · skip
    have p0 : pIn x (σ.1 3) := c_10
    obtain ⟨j0, h0, e0⟩ := pIn_idx (by omega) p0
    subst e0
    have k0 : j0 < 2 ^ 31 := by omega
    refine zg_aload_n X dX7_reviewerOf_13 rfl ?_
    refine zg_iload_n X dX7_reviewerOf_14 rfl ?_
    refine zg_callVi X (k_X7_reviewer l D ad T (uN σ 8 0) hI j0 h0) zFr.rf gX7_reviewerOf_X7_reviewer rfl rfl rfl qv_X7_reviewer rfl ⟨Nat.le_of_ble_eq_true rfl, Nat.le_of_ble_eq_true rfl⟩ (q0 := 0) (ci := 9) rfl rfl rfl (Nat.le_of_ble_eq_true rfl) ⟨Nat.le_of_ble_eq_true rfl, Nat.le_of_ble_eq_true rfl⟩ dX7_reviewerOf_15 (fun r w1 hz9 => ?_)
    obtain ⟨rfl, rfl⟩ := hz9
    refine zg_top revI_8 ?_
    refine zg_goto X dX7_reviewerOf_18 (tgt := 26) (by decide) ?_
    exact zg_iret X hr dX7_reviewerOf_26 (Nat.le_of_ble_eq_true rfl) (Nat.le_of_ble_eq_true rfl) (⟨uN σ 8 0, mR_r (by rw [sp_reviewerOf, if_pos p0, ix_nI k0] <;> rfl), rfl⟩)

set_option maxHeartbeats 4000000 in
set_option maxRecDepth 100000 in
theorem k_X7_stateOf (l : Launch) (D : va_G) (ad : Nat → Nat) (T : Nat → ClassId) (σ : ZS) (hI : zI σ) (x : Int32) (hK : zK σ) : zM l yX7_stateOf wsX7_stateOf ({ frames := 2, cells := 0, slots := 0, locals := 43 }) D (zT T) [.ref (ad 0), .int x] (wM ad T σ) 0 0 (qI D (zT T) (fun v0 w => ∃ t, mR [eNS] σ (sp_stateOf σ x) v0 t ∧ w = wM ad T t)) := by
  have hB0 := hI.bd
  obtain ⟨b0, b1, b2, b3, b4, b5⟩ := hI.bd
  refine zg_of (cc := cX7_stateOf) (maxL := 2) (ret := (some .char)) (by decide) rfl (Nat.le_of_ble_eq_true rfl) (fun p e s m below meth c A hin hr X => ?_)
  have X : zC p s m _ meth c cX7_stateOf 2 wsX7_stateOf RX7 D (zT T) A := X
  have f7 : ∀ w ∈ u_ws RX7 TX7 37, w ∈ wsX7_stateOf := by decide +kernel
  have l56 : Cond.fieldLink RX7 56 "RecertifyModel" "states" "[C" ∈ wsX7_stateOf := by decide +kernel
  have l85 : Cond.fieldLink RX7 85 "RecertifyModel" "thrown" "I" ∈ wsX7_stateOf := by decide +kernel
  refine zg_aload_n X dX7_stateOf_0 rfl ?_
  refine zg_iconst X (v := 0) dX7_stateOf_1 (by decide) ?_
  refine rp_M_thrown X f7 l85 dX7_stateOf_2 ?_
  refine zg_aload_n X dX7_stateOf_5 rfl ?_
  refine zg_iload_n X dX7_stateOf_6 rfl ?_
  refine zg_callVi X (k_X7_isGrant l D ad T (uN σ 8 0) hB0 _) zFr.rf gX7_stateOf_X7_isGrant rfl rfl rfl qv_X7_isGrant rfl ⟨Nat.le_of_ble_eq_true rfl, Nat.le_of_ble_eq_true rfl⟩ (q0 := 0) (ci := 9) rfl rfl rfl (Nat.le_of_ble_eq_true rfl) ⟨Nat.le_of_ble_eq_true rfl, Nat.le_of_ble_eq_true rfl⟩ dX7_stateOf_7 (fun r w1 hz9 => ?_)
  obtain ⟨rfl, rfl⟩ := hz9
  refine zg_if_eqb X dX7_stateOf_10 (tgt := 22) (by decide) (fun c_10 => ?_) (fun c_10 => ?_)
  · skip
    refine zg_aload_n X dX7_stateOf_22 rfl ?_
    refine zg_iconst X (v := 1) dX7_stateOf_23 (by decide) ?_
    refine zg_callVi X (k_X7_fails l D ad T (uN σ 8 0) 1) zFr.rf gX7_stateOf_X7_fails rfl rfl rfl qv_X7_fails rfl ⟨Nat.le_of_ble_eq_true rfl, Nat.le_of_ble_eq_true rfl⟩ (q0 := 0) (ci := 9) rfl rfl rfl (Nat.le_of_ble_eq_true rfl) ⟨Nat.le_of_ble_eq_true rfl, Nat.le_of_ble_eq_true rfl⟩ dX7_stateOf_24 (fun r w1 hz9 => ?_)
    obtain ⟨rfl, rfl⟩ := hz9
    refine zg_i2c X dX7_stateOf_27 rfl ?_
    exact zg_nret X hr ((by first | exact hK.1 _ | rfl)) dX7_stateOf_28 (Nat.le_of_ble_eq_true rfl) (Nat.le_of_ble_eq_true rfl) (⟨uN (uN σ 8 0) 8 1, mR_f 0 (by rw [sp_stateOf, if_neg (show ¬ pIn x (σ.1 3) from c_10)]) rfl rfl, rfl⟩)
  · skip
    have p0 : pIn x (σ.1 3) := c_10
    obtain ⟨j0, h0, e0⟩ := pIn_idx (by omega) p0
    subst e0
    have k0 : j0 < 2 ^ 31 := by omega
    refine zg_aload_n X dX7_stateOf_13 rfl ?_
    refine rg_M_states X f7 l56 dX7_stateOf_14 ?_
    refine zg_iload_n X dX7_stateOf_17 rfl ?_
    refine rlM_states X (by omega) dX7_stateOf_18 ?_
    refine zg_goto X dX7_stateOf_19 (tgt := 28) (by decide) ?_
    exact zg_nret X hr ((by first | exact hK.1 _ | rfl)) dX7_stateOf_28 (Nat.le_of_ble_eq_true rfl) (Nat.le_of_ble_eq_true rfl) (⟨uN σ 8 0, mR_r (by rw [sp_stateOf, if_pos p0, ix_nI k0] <;> rfl), rfl⟩)

set_option maxHeartbeats 4000000 in
set_option maxRecDepth 100000 in
theorem k_X7_dueDay (l : Launch) (D : va_G) (ad : Nat → Nat) (T : Nat → ClassId) (σ : ZS) (hI : zI σ) (x : Int32)  : zM l yX7_dueDay wsX7_dueDay ({ frames := 2, cells := 0, slots := 0, locals := 43 }) D (zT T) [.ref (ad 0), .int x] (wM ad T σ) 0 0 (qI D (zT T) (fun v0 w => ∃ t, mR [eNS, eIS] σ (sp_dueDay σ x) v0 t ∧ w = wM ad T t)) := by
  have hB0 := hI.bd
  obtain ⟨b0, b1, b2, b3, b4, b5⟩ := hI.bd
  refine zg_of (cc := cX7_dueDay) (maxL := 2) (ret := (some .int)) (by decide) rfl (Nat.le_of_ble_eq_true rfl) (fun p e s m below meth c A hin hr X => ?_)
  have X : zC p s m _ meth c cX7_dueDay 2 wsX7_dueDay RX7 D (zT T) A := X
  have f7 : ∀ w ∈ u_ws RX7 TX7 37, w ∈ wsX7_dueDay := by decide +kernel
  have l46 : Cond.fieldLink RX7 46 "RecertifyModel" "due" "[I" ∈ wsX7_dueDay := by decide +kernel
  have l56 : Cond.fieldLink RX7 56 "RecertifyModel" "states" "[C" ∈ wsX7_dueDay := by decide +kernel
  have l85 : Cond.fieldLink RX7 85 "RecertifyModel" "thrown" "I" ∈ wsX7_dueDay := by decide +kernel
  refine zg_aload_n X dX7_dueDay_0 rfl ?_
  refine zg_iconst X (v := 0) dX7_dueDay_1 (by decide) ?_
  refine rp_M_thrown X f7 l85 dX7_dueDay_2 ?_
  refine zg_aload_n X dX7_dueDay_5 rfl ?_
  refine zg_iload_n X dX7_dueDay_6 rfl ?_
  refine zg_callVi X (k_X7_isGrant l D ad T (uN σ 8 0) hB0 _) zFr.rf gX7_dueDay_X7_isGrant rfl rfl rfl qv_X7_isGrant rfl ⟨Nat.le_of_ble_eq_true rfl, Nat.le_of_ble_eq_true rfl⟩ (q0 := 0) (ci := 9) rfl rfl rfl (Nat.le_of_ble_eq_true rfl) ⟨Nat.le_of_ble_eq_true rfl, Nat.le_of_ble_eq_true rfl⟩ dX7_dueDay_7 (fun r w1 hz9 => ?_)
  obtain ⟨rfl, rfl⟩ := hz9
  refine zg_if_neb X dX7_dueDay_10 (tgt := 19) (by decide) (fun c_10 => ?_) (fun c_10 => ?_)
  · skip
    have p0 : pIn x (σ.1 3) := c_10
    obtain ⟨j0, h0, e0⟩ := pIn_idx (by omega) p0
    subst e0
    have k0 : j0 < 2 ^ 31 := by omega
    refine zg_aload_n X dX7_dueDay_19 rfl ?_
    refine rg_M_states X f7 l56 dX7_dueDay_20 ?_
    refine zg_iload_n X dX7_dueDay_23 rfl ?_
    refine rlM_states X (by omega) dX7_dueDay_24 ?_
    refine zg_bipush X (v := 119) dX7_dueDay_25 (by decide) ?_
    refine zg_icmp_ne X dX7_dueDay_27 (tgt := 39) (by decide) (fun c_27 => ?_) (fun c_27 => ?_)
    · skip
      refine zg_aload_n X dX7_dueDay_39 rfl ?_
      refine zg_iconst X (v := 2) dX7_dueDay_40 (by decide) ?_
      refine zg_callVi X (k_X7_fails l D ad T (uN σ 8 0) 2) zFr.rf gX7_dueDay_X7_fails rfl rfl rfl qv_X7_fails rfl ⟨Nat.le_of_ble_eq_true rfl, Nat.le_of_ble_eq_true rfl⟩ (q0 := 0) (ci := 9) rfl rfl rfl (Nat.le_of_ble_eq_true rfl) ⟨Nat.le_of_ble_eq_true rfl, Nat.le_of_ble_eq_true rfl⟩ dX7_dueDay_41 (fun r w1 hz9 => ?_)
      obtain ⟨rfl, rfl⟩ := hz9
      exact zg_iret X hr dX7_dueDay_44 (Nat.le_of_ble_eq_true rfl) (Nat.le_of_ble_eq_true rfl) (⟨uN (uN σ 8 0) 8 2, mR_f 1 (by rw [sp_dueDay, if_pos p0, ix_nI k0, if_neg (show ¬ σ.2.2 11 j0 = 119 from c_27)]) rfl rfl, rfl⟩)
    · skip
      refine zg_aload_n X dX7_dueDay_30 rfl ?_
      refine rg_M_due X f7 l46 dX7_dueDay_31 ?_
      refine zg_iload_n X dX7_dueDay_34 rfl ?_
      refine rlM_due X (by omega) dX7_dueDay_35 ?_
      refine zg_goto X dX7_dueDay_36 (tgt := 44) (by decide) ?_
      exact zg_iret X hr dX7_dueDay_44 (Nat.le_of_ble_eq_true rfl) (Nat.le_of_ble_eq_true rfl) (⟨uN σ 8 0, mR_r (by rw [sp_dueDay, if_pos p0, ix_nI k0, if_pos (show σ.2.2 11 j0 = 119 from c_27)] <;> rfl), rfl⟩)
  · skip
    refine zg_aload_n X dX7_dueDay_13 rfl ?_
    refine zg_iconst X (v := 1) dX7_dueDay_14 (by decide) ?_
    refine zg_callVi X (k_X7_fails l D ad T (uN σ 8 0) 1) zFr.rf gX7_dueDay_X7_fails rfl rfl rfl qv_X7_fails rfl ⟨Nat.le_of_ble_eq_true rfl, Nat.le_of_ble_eq_true rfl⟩ (q0 := 0) (ci := 9) rfl rfl rfl (Nat.le_of_ble_eq_true rfl) ⟨Nat.le_of_ble_eq_true rfl, Nat.le_of_ble_eq_true rfl⟩ dX7_dueDay_15 (fun r w1 hz9 => ?_)
    obtain ⟨rfl, rfl⟩ := hz9
    exact zg_iret X hr dX7_dueDay_18 (Nat.le_of_ble_eq_true rfl) (Nat.le_of_ble_eq_true rfl) (⟨uN (uN σ 8 0) 8 1, mR_f 0 (by rw [sp_dueDay, if_neg (show ¬ pIn x (σ.1 3) from c_10)]) rfl rfl, rfl⟩)

set_option maxHeartbeats 4000000 in
set_option maxRecDepth 100000 in
theorem k_X7_lastUse (l : Launch) (D : va_G) (ad : Nat → Nat) (T : Nat → ClassId) (σ : ZS) (hI : zI σ) (x : Int32)  : zM l yX7_lastUse wsX7_lastUse ({ frames := 2, cells := 0, slots := 0, locals := 43 }) D (zT T) [.ref (ad 0), .int x] (wM ad T σ) 0 0 (qI D (zT T) (fun v0 w => ∃ t, mR [eNS] σ (sp_lastUse σ x) v0 t ∧ w = wM ad T t)) := by
  have hB0 := hI.bd
  obtain ⟨b0, b1, b2, b3, b4, b5⟩ := hI.bd
  refine zg_of (cc := cX7_lastUse) (maxL := 2) (ret := (some .int)) (by decide) rfl (Nat.le_of_ble_eq_true rfl) (fun p e s m below meth c A hin hr X => ?_)
  have X : zC p s m _ meth c cX7_lastUse 2 wsX7_lastUse RX7 D (zT T) A := X
  have f7 : ∀ w ∈ u_ws RX7 TX7 37, w ∈ wsX7_lastUse := by decide +kernel
  have l43 : Cond.fieldLink RX7 43 "RecertifyModel" "used" "[I" ∈ wsX7_lastUse := by decide +kernel
  have l85 : Cond.fieldLink RX7 85 "RecertifyModel" "thrown" "I" ∈ wsX7_lastUse := by decide +kernel
  refine zg_aload_n X dX7_lastUse_0 rfl ?_
  refine zg_iconst X (v := 0) dX7_lastUse_1 (by decide) ?_
  refine rp_M_thrown X f7 l85 dX7_lastUse_2 ?_
  refine zg_aload_n X dX7_lastUse_5 rfl ?_
  refine zg_iload_n X dX7_lastUse_6 rfl ?_
  refine zg_callVi X (k_X7_isGrant l D ad T (uN σ 8 0) hB0 _) zFr.rf gX7_lastUse_X7_isGrant rfl rfl rfl qv_X7_isGrant rfl ⟨Nat.le_of_ble_eq_true rfl, Nat.le_of_ble_eq_true rfl⟩ (q0 := 0) (ci := 9) rfl rfl rfl (Nat.le_of_ble_eq_true rfl) ⟨Nat.le_of_ble_eq_true rfl, Nat.le_of_ble_eq_true rfl⟩ dX7_lastUse_7 (fun r w1 hz9 => ?_)
  obtain ⟨rfl, rfl⟩ := hz9
  refine zg_if_eqb X dX7_lastUse_10 (tgt := 22) (by decide) (fun c_10 => ?_) (fun c_10 => ?_)
  · skip
    refine zg_aload_n X dX7_lastUse_22 rfl ?_
    refine zg_iconst X (v := 1) dX7_lastUse_23 (by decide) ?_
    refine zg_callVi X (k_X7_fails l D ad T (uN σ 8 0) 1) zFr.rf gX7_lastUse_X7_fails rfl rfl rfl qv_X7_fails rfl ⟨Nat.le_of_ble_eq_true rfl, Nat.le_of_ble_eq_true rfl⟩ (q0 := 0) (ci := 9) rfl rfl rfl (Nat.le_of_ble_eq_true rfl) ⟨Nat.le_of_ble_eq_true rfl, Nat.le_of_ble_eq_true rfl⟩ dX7_lastUse_24 (fun r w1 hz9 => ?_)
    obtain ⟨rfl, rfl⟩ := hz9
    exact zg_iret X hr dX7_lastUse_27 (Nat.le_of_ble_eq_true rfl) (Nat.le_of_ble_eq_true rfl) (⟨uN (uN σ 8 0) 8 1, mR_f 0 (by rw [sp_lastUse, if_neg (show ¬ pIn x (σ.1 3) from c_10)]) rfl rfl, rfl⟩)
  · skip
    have p0 : pIn x (σ.1 3) := c_10
    obtain ⟨j0, h0, e0⟩ := pIn_idx (by omega) p0
    subst e0
    have k0 : j0 < 2 ^ 31 := by omega
    refine zg_aload_n X dX7_lastUse_13 rfl ?_
    refine rg_M_used X f7 l43 dX7_lastUse_14 ?_
    refine zg_iload_n X dX7_lastUse_17 rfl ?_
    refine rlM_used X (by omega) dX7_lastUse_18 ?_
    refine zg_goto X dX7_lastUse_19 (tgt := 27) (by decide) ?_
    exact zg_iret X hr dX7_lastUse_27 (Nat.le_of_ble_eq_true rfl) (Nat.le_of_ble_eq_true rfl) (⟨uN σ 8 0, mR_r (by rw [sp_lastUse, if_pos p0, ix_nI k0] <;> rfl), rfl⟩)

set_option maxHeartbeats 4000000 in
set_option maxRecDepth 100000 in
theorem k_X7_isBlocked (l : Launch) (D : va_G) (ad : Nat → Nat) (T : Nat → ClassId) (σ : ZS) (hI : zI σ) (x : Int32)  : zM l yX7_isBlocked wsX7_isBlocked ({ frames := 6, cells := 0, slots := 0, locals := 136 }) D (zT T) [.ref (ad 0), .int x] (wM ad T σ) 0 0 (qI D (zT T) (fun v0 w => ∃ t, mR [eNS] σ (sp_isBlocked σ x) v0 t ∧ w = wM ad T t)) := by
  have hB0 := hI.bd
  obtain ⟨b0, b1, b2, b3, b4, b5⟩ := hI.bd
  refine zg_of (cc := cX7_isBlocked) (maxL := 2) (ret := (some .boolean)) (by decide) rfl (Nat.le_of_ble_eq_true rfl) (fun p e s m below meth c A hin hr X => ?_)
  have X : zC p s m _ meth c cX7_isBlocked 2 wsX7_isBlocked RX7 D (zT T) A := X
  have f7 : ∀ w ∈ u_ws RX7 TX7 37, w ∈ wsX7_isBlocked := by decide +kernel
  have l85 : Cond.fieldLink RX7 85 "RecertifyModel" "thrown" "I" ∈ wsX7_isBlocked := by decide +kernel
  refine zg_aload_n X dX7_isBlocked_0 rfl ?_
  refine zg_iconst X (v := 0) dX7_isBlocked_1 (by decide) ?_
  refine rp_M_thrown X f7 l85 dX7_isBlocked_2 ?_
  refine zg_aload_n X dX7_isBlocked_5 rfl ?_
  refine zg_iload_n X dX7_isBlocked_6 rfl ?_
  refine zg_callVi X (k_X7_isGrant l D ad T (uN σ 8 0) hB0 _) zFr.rf gX7_isBlocked_X7_isGrant rfl rfl rfl qv_X7_isGrant rfl ⟨Nat.le_of_ble_eq_true rfl, Nat.le_of_ble_eq_true rfl⟩ (q0 := 0) (ci := 9) rfl rfl rfl (Nat.le_of_ble_eq_true rfl) ⟨Nat.le_of_ble_eq_true rfl, Nat.le_of_ble_eq_true rfl⟩ dX7_isBlocked_7 (fun r w1 hz9 => ?_)
  obtain ⟨rfl, rfl⟩ := hz9
  refine zg_if_eqb X dX7_isBlocked_10 (tgt := 21) (by decide) (fun c_10 => ?_) (fun c_10 => ?_)
  · skip
    refine zg_aload_n X dX7_isBlocked_21 rfl ?_
    refine zg_iconst X (v := 1) dX7_isBlocked_22 (by decide) ?_
    refine zg_callVi X (k_X7_isWrong l D ad T (uN σ 8 0) 1) zFr.rf gX7_isBlocked_X7_isWrong rfl rfl rfl qv_X7_isWrong rfl ⟨Nat.le_of_ble_eq_true rfl, Nat.le_of_ble_eq_true rfl⟩ (q0 := 0) (ci := 9) rfl rfl rfl (Nat.le_of_ble_eq_true rfl) ⟨Nat.le_of_ble_eq_true rfl, Nat.le_of_ble_eq_true rfl⟩ dX7_isBlocked_23 (fun r w1 hz9 => ?_)
    obtain ⟨rfl, rfl⟩ := hz9
    exact zg_nret X hr ((by first | exact bI_nar | rfl)) dX7_isBlocked_26 (Nat.le_of_ble_eq_true rfl) (Nat.le_of_ble_eq_true rfl) (⟨uN (uN σ 8 0) 8 1, mR_f 0 (by rw [sp_isBlocked, if_neg (show ¬ pIn x (σ.1 3) from c_10)]) rfl rfl, rfl⟩)
  · skip
    have p0 : pIn x (σ.1 3) := c_10
    obtain ⟨j0, h0, e0⟩ := pIn_idx (by omega) p0
    subst e0
    have k0 : j0 < 2 ^ 31 := by omega
    refine zg_aload_n X dX7_isBlocked_13 rfl ?_
    refine zg_iload_n X dX7_isBlocked_14 rfl ?_
    refine zg_callVi X (k_X7_isBlockedNow l D ad T (uN σ 8 0) hI j0 h0) zFr.rf gX7_isBlocked_X7_isBlockedNow rfl rfl rfl qv_X7_isBlockedNow rfl ⟨Nat.le_of_ble_eq_true rfl, Nat.le_of_ble_eq_true rfl⟩ (q0 := 0) (ci := 9) rfl rfl rfl (Nat.le_of_ble_eq_true rfl) ⟨Nat.le_of_ble_eq_true rfl, Nat.le_of_ble_eq_true rfl⟩ dX7_isBlocked_15 (fun r w1 hz9 => ?_)
    obtain ⟨rfl, rfl⟩ := hz9
    refine zg_goto X dX7_isBlocked_18 (tgt := 26) (by decide) ?_
    exact zg_nret X hr ((by first | exact bI_nar | rfl)) dX7_isBlocked_26 (Nat.le_of_ble_eq_true rfl) (Nat.le_of_ble_eq_true rfl) (⟨uN σ 8 0, mR_r (by rw [sp_isBlocked, if_pos p0, ix_nI k0] <;> rfl), rfl⟩)

set_option maxHeartbeats 4000000 in
set_option maxRecDepth 100000 in
theorem k_X7_grantOf (l : Launch) (D : va_G) (ad : Nat → Nat) (T : Nat → ClassId) (σ : ZS) (hI : zI σ) (x : Int32)  : zM l yX7_grantOf wsX7_grantOf ({ frames := 2, cells := 0, slots := 0, locals := 43 }) D (zT T) [.ref (ad 0), .int x] (wM ad T σ) 0 0 (qI D (zT T) (fun v0 w => ∃ t, mR [eNS] σ (sp_grantOf σ x) v0 t ∧ w = wM ad T t)) := by
  have hB0 := hI.bd
  obtain ⟨b0, b1, b2, b3, b4, b5⟩ := hI.bd
  refine zg_of (cc := cX7_grantOf) (maxL := 2) (ret := (some .int)) (by decide) rfl (Nat.le_of_ble_eq_true rfl) (fun p e s m below meth c A hin hr X => ?_)
  have X : zC p s m _ meth c cX7_grantOf 2 wsX7_grantOf RX7 D (zT T) A := X
  have f7 : ∀ w ∈ u_ws RX7 TX7 37, w ∈ wsX7_grantOf := by decide +kernel
  have l73 : Cond.fieldLink RX7 73 "RecertifyModel" "itemGrants" "[I" ∈ wsX7_grantOf := by decide +kernel
  have l85 : Cond.fieldLink RX7 85 "RecertifyModel" "thrown" "I" ∈ wsX7_grantOf := by decide +kernel
  refine zg_aload_n X dX7_grantOf_0 rfl ?_
  refine zg_iconst X (v := 0) dX7_grantOf_1 (by decide) ?_
  refine rp_M_thrown X f7 l85 dX7_grantOf_2 ?_
  refine zg_aload_n X dX7_grantOf_5 rfl ?_
  refine zg_iload_n X dX7_grantOf_6 rfl ?_
  refine zg_callVi X (k_X7_isItem l D ad T (uN σ 8 0) hB0 _) zFr.rf gX7_grantOf_X7_isItem rfl rfl rfl qv_X7_isItem rfl ⟨Nat.le_of_ble_eq_true rfl, Nat.le_of_ble_eq_true rfl⟩ (q0 := 0) (ci := 9) rfl rfl rfl (Nat.le_of_ble_eq_true rfl) ⟨Nat.le_of_ble_eq_true rfl, Nat.le_of_ble_eq_true rfl⟩ dX7_grantOf_7 (fun r w1 hz9 => ?_)
  obtain ⟨rfl, rfl⟩ := hz9
  refine zg_if_eqb X dX7_grantOf_10 (tgt := 22) (by decide) (fun c_10 => ?_) (fun c_10 => ?_)
  · skip
    refine zg_aload_n X dX7_grantOf_22 rfl ?_
    refine zg_iconst X (v := 1) dX7_grantOf_23 (by decide) ?_
    refine zg_callVi X (k_X7_fails l D ad T (uN σ 8 0) 1) zFr.rf gX7_grantOf_X7_fails rfl rfl rfl qv_X7_fails rfl ⟨Nat.le_of_ble_eq_true rfl, Nat.le_of_ble_eq_true rfl⟩ (q0 := 0) (ci := 9) rfl rfl rfl (Nat.le_of_ble_eq_true rfl) ⟨Nat.le_of_ble_eq_true rfl, Nat.le_of_ble_eq_true rfl⟩ dX7_grantOf_24 (fun r w1 hz9 => ?_)
    obtain ⟨rfl, rfl⟩ := hz9
    exact zg_iret X hr dX7_grantOf_27 (Nat.le_of_ble_eq_true rfl) (Nat.le_of_ble_eq_true rfl) (⟨uN (uN σ 8 0) 8 1, mR_f 0 (by rw [sp_grantOf, if_neg (show ¬ pIn x (σ.1 4) from c_10)]) rfl rfl, rfl⟩)
  · skip
    have p0 : pIn x (σ.1 4) := c_10
    obtain ⟨j0, h0, e0⟩ := pIn_idx (by omega) p0
    subst e0
    have k0 : j0 < 2 ^ 31 := by omega
    refine zg_aload_n X dX7_grantOf_13 rfl ?_
    refine rg_M_itemGrants X f7 l73 dX7_grantOf_14 ?_
    refine zg_iload_n X dX7_grantOf_17 rfl ?_
    refine rlM_itemGrants X (by omega) dX7_grantOf_18 ?_
    refine zg_goto X dX7_grantOf_19 (tgt := 27) (by decide) ?_
    exact zg_iret X hr dX7_grantOf_27 (Nat.le_of_ble_eq_true rfl) (Nat.le_of_ble_eq_true rfl) (⟨uN σ 8 0, mR_r (by rw [sp_grantOf, if_pos p0, ix_nI k0] <;> rfl), rfl⟩)

set_option maxHeartbeats 4000000 in
set_option maxRecDepth 100000 in
theorem k_X7_verdict (l : Launch) (D : va_G) (ad : Nat → Nat) (T : Nat → ClassId) (σ : ZS) (hI : zI σ) (x : Int32) (hK : zK σ) : zM l yX7_verdict wsX7_verdict ({ frames := 2, cells := 0, slots := 0, locals := 43 }) D (zT T) [.ref (ad 0), .int x] (wM ad T σ) 0 0 (qI D (zT T) (fun v0 w => ∃ t, mR [eNS] σ (sp_verdict σ x) v0 t ∧ w = wM ad T t)) := by
  have hB0 := hI.bd
  obtain ⟨b0, b1, b2, b3, b4, b5⟩ := hI.bd
  refine zg_of (cc := cX7_verdict) (maxL := 2) (ret := (some .char)) (by decide) rfl (Nat.le_of_ble_eq_true rfl) (fun p e s m below meth c A hin hr X => ?_)
  have X : zC p s m _ meth c cX7_verdict 2 wsX7_verdict RX7 D (zT T) A := X
  have f7 : ∀ w ∈ u_ws RX7 TX7 37, w ∈ wsX7_verdict := by decide +kernel
  have l79 : Cond.fieldLink RX7 79 "RecertifyModel" "verdicts" "[C" ∈ wsX7_verdict := by decide +kernel
  have l85 : Cond.fieldLink RX7 85 "RecertifyModel" "thrown" "I" ∈ wsX7_verdict := by decide +kernel
  refine zg_aload_n X dX7_verdict_0 rfl ?_
  refine zg_iconst X (v := 0) dX7_verdict_1 (by decide) ?_
  refine rp_M_thrown X f7 l85 dX7_verdict_2 ?_
  refine zg_aload_n X dX7_verdict_5 rfl ?_
  refine zg_iload_n X dX7_verdict_6 rfl ?_
  refine zg_callVi X (k_X7_isItem l D ad T (uN σ 8 0) hB0 _) zFr.rf gX7_verdict_X7_isItem rfl rfl rfl qv_X7_isItem rfl ⟨Nat.le_of_ble_eq_true rfl, Nat.le_of_ble_eq_true rfl⟩ (q0 := 0) (ci := 9) rfl rfl rfl (Nat.le_of_ble_eq_true rfl) ⟨Nat.le_of_ble_eq_true rfl, Nat.le_of_ble_eq_true rfl⟩ dX7_verdict_7 (fun r w1 hz9 => ?_)
  obtain ⟨rfl, rfl⟩ := hz9
  refine zg_if_eqb X dX7_verdict_10 (tgt := 22) (by decide) (fun c_10 => ?_) (fun c_10 => ?_)
  · skip
    refine zg_aload_n X dX7_verdict_22 rfl ?_
    refine zg_iconst X (v := 1) dX7_verdict_23 (by decide) ?_
    refine zg_callVi X (k_X7_fails l D ad T (uN σ 8 0) 1) zFr.rf gX7_verdict_X7_fails rfl rfl rfl qv_X7_fails rfl ⟨Nat.le_of_ble_eq_true rfl, Nat.le_of_ble_eq_true rfl⟩ (q0 := 0) (ci := 9) rfl rfl rfl (Nat.le_of_ble_eq_true rfl) ⟨Nat.le_of_ble_eq_true rfl, Nat.le_of_ble_eq_true rfl⟩ dX7_verdict_24 (fun r w1 hz9 => ?_)
    obtain ⟨rfl, rfl⟩ := hz9
    refine zg_i2c X dX7_verdict_27 rfl ?_
    exact zg_nret X hr ((by first | exact hK.2.1 _ | rfl)) dX7_verdict_28 (Nat.le_of_ble_eq_true rfl) (Nat.le_of_ble_eq_true rfl) (⟨uN (uN σ 8 0) 8 1, mR_f 0 (by rw [sp_verdict, if_neg (show ¬ pIn x (σ.1 4) from c_10)]) rfl rfl, rfl⟩)
  · skip
    have p0 : pIn x (σ.1 4) := c_10
    obtain ⟨j0, h0, e0⟩ := pIn_idx (by omega) p0
    subst e0
    have k0 : j0 < 2 ^ 31 := by omega
    refine zg_aload_n X dX7_verdict_13 rfl ?_
    refine rg_M_verdicts X f7 l79 dX7_verdict_14 ?_
    refine zg_iload_n X dX7_verdict_17 rfl ?_
    refine rlM_verdicts X (by omega) dX7_verdict_18 ?_
    refine zg_goto X dX7_verdict_19 (tgt := 28) (by decide) ?_
    exact zg_nret X hr ((by first | exact hK.2.1 _ | rfl)) dX7_verdict_28 (Nat.le_of_ble_eq_true rfl) (Nat.le_of_ble_eq_true rfl) (⟨uN σ 8 0, mR_r (by rw [sp_verdict, if_pos p0, ix_nI k0] <;> rfl), rfl⟩)

set_option maxHeartbeats 4000000 in
set_option maxRecDepth 100000 in
theorem k_X7_decider (l : Launch) (D : va_G) (ad : Nat → Nat) (T : Nat → ClassId) (σ : ZS) (hI : zI σ) (x : Int32)  : zM l yX7_decider wsX7_decider ({ frames := 2, cells := 0, slots := 0, locals := 43 }) D (zT T) [.ref (ad 0), .int x] (wM ad T σ) 0 0 (qI D (zT T) (fun v0 w => ∃ t, mR [eNS, eIS] σ (sp_decider σ x) v0 t ∧ w = wM ad T t)) := by
  have hB0 := hI.bd
  obtain ⟨b0, b1, b2, b3, b4, b5⟩ := hI.bd
  refine zg_of (cc := cX7_decider) (maxL := 2) (ret := (some .int)) (by decide) rfl (Nat.le_of_ble_eq_true rfl) (fun p e s m below meth c A hin hr X => ?_)
  have X : zC p s m _ meth c cX7_decider 2 wsX7_decider RX7 D (zT T) A := X
  have f7 : ∀ w ∈ u_ws RX7 TX7 37, w ∈ wsX7_decider := by decide +kernel
  have l76 : Cond.fieldLink RX7 76 "RecertifyModel" "deciders" "[I" ∈ wsX7_decider := by decide +kernel
  have l79 : Cond.fieldLink RX7 79 "RecertifyModel" "verdicts" "[C" ∈ wsX7_decider := by decide +kernel
  have l85 : Cond.fieldLink RX7 85 "RecertifyModel" "thrown" "I" ∈ wsX7_decider := by decide +kernel
  refine zg_aload_n X dX7_decider_0 rfl ?_
  refine zg_iconst X (v := 0) dX7_decider_1 (by decide) ?_
  refine rp_M_thrown X f7 l85 dX7_decider_2 ?_
  refine zg_aload_n X dX7_decider_5 rfl ?_
  refine zg_iload_n X dX7_decider_6 rfl ?_
  refine zg_callVi X (k_X7_isItem l D ad T (uN σ 8 0) hB0 _) zFr.rf gX7_decider_X7_isItem rfl rfl rfl qv_X7_isItem rfl ⟨Nat.le_of_ble_eq_true rfl, Nat.le_of_ble_eq_true rfl⟩ (q0 := 0) (ci := 9) rfl rfl rfl (Nat.le_of_ble_eq_true rfl) ⟨Nat.le_of_ble_eq_true rfl, Nat.le_of_ble_eq_true rfl⟩ dX7_decider_7 (fun r w1 hz9 => ?_)
  obtain ⟨rfl, rfl⟩ := hz9
  refine zg_if_neb X dX7_decider_10 (tgt := 19) (by decide) (fun c_10 => ?_) (fun c_10 => ?_)
  · skip
    have p0 : pIn x (σ.1 4) := c_10
    obtain ⟨j0, h0, e0⟩ := pIn_idx (by omega) p0
    subst e0
    have k0 : j0 < 2 ^ 31 := by omega
    refine zg_aload_n X dX7_decider_19 rfl ?_
    refine rg_M_verdicts X f7 l79 dX7_decider_20 ?_
    refine zg_iload_n X dX7_decider_23 rfl ?_
    refine rlM_verdicts X (by omega) dX7_decider_24 ?_
    refine zg_bipush X (v := 117) dX7_decider_25 (by decide) ?_
    refine zg_icmp_ne X dX7_decider_27 (tgt := 38) (by decide) (fun c_27 => ?_) (fun c_27 => ?_)
    · skip
      refine zg_aload_n X dX7_decider_38 rfl ?_
      refine rg_M_deciders X f7 l76 dX7_decider_39 ?_
      refine zg_iload_n X dX7_decider_42 rfl ?_
      refine rlM_deciders X (by omega) dX7_decider_43 ?_
      exact zg_iret X hr dX7_decider_44 (Nat.le_of_ble_eq_true rfl) (Nat.le_of_ble_eq_true rfl) (⟨uN σ 8 0, mR_r (by rw [sp_decider, if_pos p0, ix_nI k0, if_neg (show ¬ σ.2.2 17 j0 = 117 from c_27)] <;> rfl), rfl⟩)
    · skip
      refine zg_aload_n X dX7_decider_30 rfl ?_
      refine zg_iconst X (v := 2) dX7_decider_31 (by decide) ?_
      refine zg_callVi X (k_X7_fails l D ad T (uN σ 8 0) 2) zFr.rf gX7_decider_X7_fails rfl rfl rfl qv_X7_fails rfl ⟨Nat.le_of_ble_eq_true rfl, Nat.le_of_ble_eq_true rfl⟩ (q0 := 0) (ci := 9) rfl rfl rfl (Nat.le_of_ble_eq_true rfl) ⟨Nat.le_of_ble_eq_true rfl, Nat.le_of_ble_eq_true rfl⟩ dX7_decider_32 (fun r w1 hz9 => ?_)
      obtain ⟨rfl, rfl⟩ := hz9
      refine zg_goto X dX7_decider_35 (tgt := 44) (by decide) ?_
      exact zg_iret X hr dX7_decider_44 (Nat.le_of_ble_eq_true rfl) (Nat.le_of_ble_eq_true rfl) (⟨uN (uN σ 8 0) 8 2, mR_f 1 (by rw [sp_decider, if_pos p0, ix_nI k0, if_pos (show σ.2.2 17 j0 = 117 from c_27)]) rfl rfl, rfl⟩)
  · skip
    refine zg_aload_n X dX7_decider_13 rfl ?_
    refine zg_iconst X (v := 1) dX7_decider_14 (by decide) ?_
    refine zg_callVi X (k_X7_fails l D ad T (uN σ 8 0) 1) zFr.rf gX7_decider_X7_fails rfl rfl rfl qv_X7_fails rfl ⟨Nat.le_of_ble_eq_true rfl, Nat.le_of_ble_eq_true rfl⟩ (q0 := 0) (ci := 9) rfl rfl rfl (Nat.le_of_ble_eq_true rfl) ⟨Nat.le_of_ble_eq_true rfl, Nat.le_of_ble_eq_true rfl⟩ dX7_decider_15 (fun r w1 hz9 => ?_)
    obtain ⟨rfl, rfl⟩ := hz9
    exact zg_iret X hr dX7_decider_18 (Nat.le_of_ble_eq_true rfl) (Nat.le_of_ble_eq_true rfl) (⟨uN (uN σ 8 0) 8 1, mR_f 0 (by rw [sp_decider, if_neg (show ¬ pIn x (σ.1 4) from c_10)]) rfl rfl, rfl⟩)

set_option maxHeartbeats 4000000 in
set_option maxRecDepth 100000 in
theorem k_X7_signAt (l : Launch) (D : va_G) (ad : Nat → Nat) (T : Nat → ClassId) (σ : ZS) (hI : zI σ) (x : Int32) (hK : zK σ) : zM l yX7_signAt wsX7_signAt ({ frames := 2, cells := 0, slots := 0, locals := 43 }) D (zT T) [.ref (ad 0), .int x] (wM ad T σ) 0 0 (qI D (zT T) (fun v0 w => ∃ t, mR [eNS] σ (sp_signAt σ x) v0 t ∧ w = wM ad T t)) := by
  have hB0 := hI.bd
  obtain ⟨b0, b1, b2, b3, b4, b5⟩ := hI.bd
  refine zg_of (cc := cX7_signAt) (maxL := 2) (ret := (some .char)) (by decide) rfl (Nat.le_of_ble_eq_true rfl) (fun p e s m below meth c A hin hr X => ?_)
  have X : zC p s m _ meth c cX7_signAt 2 wsX7_signAt RX7 D (zT T) A := X
  have f7 : ∀ w ∈ u_ws RX7 TX7 37, w ∈ wsX7_signAt := by decide +kernel
  have l67 : Cond.fieldLink RX7 67 "RecertifyModel" "signs" "[C" ∈ wsX7_signAt := by decide +kernel
  have l85 : Cond.fieldLink RX7 85 "RecertifyModel" "thrown" "I" ∈ wsX7_signAt := by decide +kernel
  refine zg_aload_n X dX7_signAt_0 rfl ?_
  refine zg_iconst X (v := 0) dX7_signAt_1 (by decide) ?_
  refine rp_M_thrown X f7 l85 dX7_signAt_2 ?_
  refine zg_aload_n X dX7_signAt_5 rfl ?_
  refine zg_iload_n X dX7_signAt_6 rfl ?_
  refine zg_callVi X (k_X7_isEntry l D ad T (uN σ 8 0) hB0 _) zFr.rf gX7_signAt_X7_isEntry rfl rfl rfl qv_X7_isEntry rfl ⟨Nat.le_of_ble_eq_true rfl, Nat.le_of_ble_eq_true rfl⟩ (q0 := 0) (ci := 9) rfl rfl rfl (Nat.le_of_ble_eq_true rfl) ⟨Nat.le_of_ble_eq_true rfl, Nat.le_of_ble_eq_true rfl⟩ dX7_signAt_7 (fun r w1 hz9 => ?_)
  obtain ⟨rfl, rfl⟩ := hz9
  refine zg_if_eqb X dX7_signAt_10 (tgt := 22) (by decide) (fun c_10 => ?_) (fun c_10 => ?_)
  · skip
    refine zg_aload_n X dX7_signAt_22 rfl ?_
    refine zg_iconst X (v := 1) dX7_signAt_23 (by decide) ?_
    refine zg_callVi X (k_X7_fails l D ad T (uN σ 8 0) 1) zFr.rf gX7_signAt_X7_fails rfl rfl rfl qv_X7_fails rfl ⟨Nat.le_of_ble_eq_true rfl, Nat.le_of_ble_eq_true rfl⟩ (q0 := 0) (ci := 9) rfl rfl rfl (Nat.le_of_ble_eq_true rfl) ⟨Nat.le_of_ble_eq_true rfl, Nat.le_of_ble_eq_true rfl⟩ dX7_signAt_24 (fun r w1 hz9 => ?_)
    obtain ⟨rfl, rfl⟩ := hz9
    refine zg_i2c X dX7_signAt_27 rfl ?_
    exact zg_nret X hr ((by first | exact hK.2.2.1 _ | rfl)) dX7_signAt_28 (Nat.le_of_ble_eq_true rfl) (Nat.le_of_ble_eq_true rfl) (⟨uN (uN σ 8 0) 8 1, mR_f 0 (by rw [sp_signAt, if_neg (show ¬ pIn x (σ.1 5) from c_10)]) rfl rfl, rfl⟩)
  · skip
    have p0 : pIn x (σ.1 5) := c_10
    obtain ⟨j0, h0, e0⟩ := pIn_idx (by omega) p0
    subst e0
    have k0 : j0 < 2 ^ 31 := by omega
    refine zg_aload_n X dX7_signAt_13 rfl ?_
    refine rg_M_signs X f7 l67 dX7_signAt_14 ?_
    refine zg_iload_n X dX7_signAt_17 rfl ?_
    refine rlM_signs X (by omega) dX7_signAt_18 ?_
    refine zg_goto X dX7_signAt_19 (tgt := 28) (by decide) ?_
    exact zg_nret X hr ((by first | exact hK.2.2.1 _ | rfl)) dX7_signAt_28 (Nat.le_of_ble_eq_true rfl) (Nat.le_of_ble_eq_true rfl) (⟨uN σ 8 0, mR_r (by rw [sp_signAt, if_pos p0, ix_nI k0] <;> rfl), rfl⟩)

set_option maxHeartbeats 4000000 in
set_option maxRecDepth 100000 in
theorem k_X7_sealAt (l : Launch) (D : va_G) (ad : Nat → Nat) (T : Nat → ClassId) (σ : ZS) (hI : zI σ) (x : Int32)  : zM l yX7_sealAt wsX7_sealAt ({ frames := 2, cells := 0, slots := 0, locals := 43 }) D (zT T) [.ref (ad 0), .int x] (wM ad T σ) 0 0 (qI D (zT T) (fun v0 w => ∃ t, mR [eNS] σ (sp_sealAt σ x) v0 t ∧ w = wM ad T t)) := by
  have hB0 := hI.bd
  obtain ⟨b0, b1, b2, b3, b4, b5⟩ := hI.bd
  refine zg_of (cc := cX7_sealAt) (maxL := 2) (ret := (some .int)) (by decide) rfl (Nat.le_of_ble_eq_true rfl) (fun p e s m below meth c A hin hr X => ?_)
  have X : zC p s m _ meth c cX7_sealAt 2 wsX7_sealAt RX7 D (zT T) A := X
  have f7 : ∀ w ∈ u_ws RX7 TX7 37, w ∈ wsX7_sealAt := by decide +kernel
  have l70 : Cond.fieldLink RX7 70 "RecertifyModel" "seals" "[I" ∈ wsX7_sealAt := by decide +kernel
  have l85 : Cond.fieldLink RX7 85 "RecertifyModel" "thrown" "I" ∈ wsX7_sealAt := by decide +kernel
  refine zg_aload_n X dX7_sealAt_0 rfl ?_
  refine zg_iconst X (v := 0) dX7_sealAt_1 (by decide) ?_
  refine rp_M_thrown X f7 l85 dX7_sealAt_2 ?_
  refine zg_aload_n X dX7_sealAt_5 rfl ?_
  refine zg_iload_n X dX7_sealAt_6 rfl ?_
  refine zg_callVi X (k_X7_isEntry l D ad T (uN σ 8 0) hB0 _) zFr.rf gX7_sealAt_X7_isEntry rfl rfl rfl qv_X7_isEntry rfl ⟨Nat.le_of_ble_eq_true rfl, Nat.le_of_ble_eq_true rfl⟩ (q0 := 0) (ci := 9) rfl rfl rfl (Nat.le_of_ble_eq_true rfl) ⟨Nat.le_of_ble_eq_true rfl, Nat.le_of_ble_eq_true rfl⟩ dX7_sealAt_7 (fun r w1 hz9 => ?_)
  obtain ⟨rfl, rfl⟩ := hz9
  refine zg_if_eqb X dX7_sealAt_10 (tgt := 22) (by decide) (fun c_10 => ?_) (fun c_10 => ?_)
  · skip
    refine zg_aload_n X dX7_sealAt_22 rfl ?_
    refine zg_iconst X (v := 1) dX7_sealAt_23 (by decide) ?_
    refine zg_callVi X (k_X7_fails l D ad T (uN σ 8 0) 1) zFr.rf gX7_sealAt_X7_fails rfl rfl rfl qv_X7_fails rfl ⟨Nat.le_of_ble_eq_true rfl, Nat.le_of_ble_eq_true rfl⟩ (q0 := 0) (ci := 9) rfl rfl rfl (Nat.le_of_ble_eq_true rfl) ⟨Nat.le_of_ble_eq_true rfl, Nat.le_of_ble_eq_true rfl⟩ dX7_sealAt_24 (fun r w1 hz9 => ?_)
    obtain ⟨rfl, rfl⟩ := hz9
    exact zg_iret X hr dX7_sealAt_27 (Nat.le_of_ble_eq_true rfl) (Nat.le_of_ble_eq_true rfl) (⟨uN (uN σ 8 0) 8 1, mR_f 0 (by rw [sp_sealAt, if_neg (show ¬ pIn x (σ.1 5) from c_10)]) rfl rfl, rfl⟩)
  · skip
    have p0 : pIn x (σ.1 5) := c_10
    obtain ⟨j0, h0, e0⟩ := pIn_idx (by omega) p0
    subst e0
    have k0 : j0 < 2 ^ 31 := by omega
    refine zg_aload_n X dX7_sealAt_13 rfl ?_
    refine rg_M_seals X f7 l70 dX7_sealAt_14 ?_
    refine zg_iload_n X dX7_sealAt_17 rfl ?_
    refine rlM_seals X (by omega) dX7_sealAt_18 ?_
    refine zg_goto X dX7_sealAt_19 (tgt := 27) (by decide) ?_
    exact zg_iret X hr dX7_sealAt_27 (Nat.le_of_ble_eq_true rfl) (Nat.le_of_ble_eq_true rfl) (⟨uN σ 8 0, mR_r (by rw [sp_sealAt, if_pos p0, ix_nI k0] <;> rfl), rfl⟩)

set_option maxHeartbeats 4000000 in
set_option maxRecDepth 100000 in
theorem k_X7_sealByReplay (l : Launch) (D : va_G) (ad : Nat → Nat) (T : Nat → ClassId) (σ : ZS) (hI : zI σ) (x : Int32) (hE : zE σ) : zM l yX7_sealByReplay wsX7_sealByReplay ({ frames := 3, cells := 0, slots := 0, locals := 64 }) D (zT T) [.ref (ad 0), .int x] (wM ad T σ) 0 0 (qI D (zT T) (fun v0 w => ∃ t, mR [eNS] σ (sp_sealByReplay σ x) v0 t ∧ w = wM ad T t)) := by
  refine zg_of (cc := cX7_sealByReplay) (maxL := 2) (ret := (some .int)) (by decide) rfl (Nat.le_of_ble_eq_true rfl) (fun p e s m below meth c A hin hr X => ?_)
  have X : zC p s m _ meth c cX7_sealByReplay 2 wsX7_sealByReplay RX7 D (zT T) A := X
  refine zg_aload_n X dX7_sealByReplay_0 rfl ?_
  refine zg_iload_n X dX7_sealByReplay_1 rfl ?_
  refine zg_callVi X (k_X7_sealAt l D ad T σ hI x) zFr.rf gX7_sealByReplay_X7_sealAt rfl rfl rfl qv_X7_sealAt rfl ⟨Nat.le_of_ble_eq_true rfl, Nat.le_of_ble_eq_true rfl⟩ (q0 := 0) (ci := 9) rfl rfl rfl (Nat.le_of_ble_eq_true rfl) ⟨Nat.le_of_ble_eq_true rfl, Nat.le_of_ble_eq_true rfl⟩ dX7_sealByReplay_2 (fun r w1 hz9 => ?_)
  obtain ⟨t2, hr2, rfl⟩ := hz9
  exact zg_iret X hr dX7_sealByReplay_5 (Nat.le_of_ble_eq_true rfl) (Nat.le_of_ble_eq_true rfl) (⟨t2, by rw [sp_sealBR hI.bd hE]; exact hr2, rfl⟩)

set_option maxHeartbeats 4000000 in
set_option maxRecDepth 100000 in
theorem k_X7_people (l : Launch) (D : va_G) (ad : Nat → Nat) (T : Nat → ClassId) (σ : ZS)  : zM l yX7_people wsX7_people ({ frames := 0, cells := 0, slots := 0, locals := 0 }) D (zT T) [.ref (ad 0)] (wM ad T σ) 0 0 (qI D (zT T) (fun v0 w => v0 = nI (σ.1 0) ∧ w = wM ad T (uN σ 8 0))) := by
  refine zg_of (cc := cX7_people) (maxL := 1) (ret := (some .int)) (by decide) rfl (Nat.le_of_ble_eq_true rfl) (fun p e s m below meth c A hin hr X => ?_)
  have X : zC p s m _ meth c cX7_people 1 wsX7_people RX7 D (zT T) A := X
  have f7 : ∀ w ∈ u_ws RX7 TX7 37, w ∈ wsX7_people := by decide +kernel
  have l85 : Cond.fieldLink RX7 85 "RecertifyModel" "thrown" "I" ∈ wsX7_people := by decide +kernel
  have l92 : Cond.fieldLink RX7 92 "RecertifyModel" "people" "I" ∈ wsX7_people := by decide +kernel
  refine zg_aload_n X dX7_people_0 rfl ?_
  refine zg_iconst X (v := 0) dX7_people_1 (by decide) ?_
  refine rp_M_thrown X f7 l85 dX7_people_2 ?_
  refine zg_aload_n X dX7_people_5 rfl ?_
  refine rg_M_people X f7 l92 dX7_people_6 ?_
  exact zg_iret X hr dX7_people_9 (Nat.le_of_ble_eq_true rfl) (Nat.le_of_ble_eq_true rfl) (⟨rfl, rfl⟩)

set_option maxHeartbeats 4000000 in
set_option maxRecDepth 100000 in
theorem k_X7_grants (l : Launch) (D : va_G) (ad : Nat → Nat) (T : Nat → ClassId) (σ : ZS)  : zM l yX7_grants wsX7_grants ({ frames := 0, cells := 0, slots := 0, locals := 0 }) D (zT T) [.ref (ad 0)] (wM ad T σ) 0 0 (qI D (zT T) (fun v0 w => v0 = nI (σ.1 3) ∧ w = wM ad T (uN σ 8 0))) := by
  refine zg_of (cc := cX7_grants) (maxL := 1) (ret := (some .int)) (by decide) rfl (Nat.le_of_ble_eq_true rfl) (fun p e s m below meth c A hin hr X => ?_)
  have X : zC p s m _ meth c cX7_grants 1 wsX7_grants RX7 D (zT T) A := X
  have f7 : ∀ w ∈ u_ws RX7 TX7 37, w ∈ wsX7_grants := by decide +kernel
  have l105 : Cond.fieldLink RX7 105 "RecertifyModel" "grants" "I" ∈ wsX7_grants := by decide +kernel
  have l85 : Cond.fieldLink RX7 85 "RecertifyModel" "thrown" "I" ∈ wsX7_grants := by decide +kernel
  refine zg_aload_n X dX7_grants_0 rfl ?_
  refine zg_iconst X (v := 0) dX7_grants_1 (by decide) ?_
  refine rp_M_thrown X f7 l85 dX7_grants_2 ?_
  refine zg_aload_n X dX7_grants_5 rfl ?_
  refine rg_M_grants X f7 l105 dX7_grants_6 ?_
  exact zg_iret X hr dX7_grants_9 (Nat.le_of_ble_eq_true rfl) (Nat.le_of_ble_eq_true rfl) (⟨rfl, rfl⟩)

set_option maxHeartbeats 4000000 in
set_option maxRecDepth 100000 in
theorem k_X7_day (l : Launch) (D : va_G) (ad : Nat → Nat) (T : Nat → ClassId) (σ : ZS)  : zM l yX7_day wsX7_day ({ frames := 0, cells := 0, slots := 0, locals := 0 }) D (zT T) [.ref (ad 0)] (wM ad T σ) 0 0 (qI D (zT T) (fun v0 w => v0 = σ.2.1 0 ∧ w = wM ad T (uN σ 8 0))) := by
  refine zg_of (cc := cX7_day) (maxL := 1) (ret := (some .int)) (by decide) rfl (Nat.le_of_ble_eq_true rfl) (fun p e s m below meth c A hin hr X => ?_)
  have X : zC p s m _ meth c cX7_day 1 wsX7_day RX7 D (zT T) A := X
  have f7 : ∀ w ∈ u_ws RX7 TX7 37, w ∈ wsX7_day := by decide +kernel
  have l134 : Cond.fieldLink RX7 134 "RecertifyModel" "day" "I" ∈ wsX7_day := by decide +kernel
  have l85 : Cond.fieldLink RX7 85 "RecertifyModel" "thrown" "I" ∈ wsX7_day := by decide +kernel
  refine zg_aload_n X dX7_day_0 rfl ?_
  refine zg_iconst X (v := 0) dX7_day_1 (by decide) ?_
  refine rp_M_thrown X f7 l85 dX7_day_2 ?_
  refine zg_aload_n X dX7_day_5 rfl ?_
  refine rg_M_day X f7 l134 dX7_day_6 ?_
  exact zg_iret X hr dX7_day_9 (Nat.le_of_ble_eq_true rfl) (Nat.le_of_ble_eq_true rfl) (⟨rfl, rfl⟩)

set_option maxHeartbeats 4000000 in
set_option maxRecDepth 100000 in
theorem k_X7_items (l : Launch) (D : va_G) (ad : Nat → Nat) (T : Nat → ClassId) (σ : ZS)  : zM l yX7_items wsX7_items ({ frames := 0, cells := 0, slots := 0, locals := 0 }) D (zT T) [.ref (ad 0)] (wM ad T σ) 0 0 (qI D (zT T) (fun v0 w => v0 = nI (σ.1 4) ∧ w = wM ad T (uN σ 8 0))) := by
  refine zg_of (cc := cX7_items) (maxL := 1) (ret := (some .int)) (by decide) rfl (Nat.le_of_ble_eq_true rfl) (fun p e s m below meth c A hin hr X => ?_)
  have X : zC p s m _ meth c cX7_items 1 wsX7_items RX7 D (zT T) A := X
  have f7 : ∀ w ∈ u_ws RX7 TX7 37, w ∈ wsX7_items := by decide +kernel
  have l179 : Cond.fieldLink RX7 179 "RecertifyModel" "items" "I" ∈ wsX7_items := by decide +kernel
  have l85 : Cond.fieldLink RX7 85 "RecertifyModel" "thrown" "I" ∈ wsX7_items := by decide +kernel
  refine zg_aload_n X dX7_items_0 rfl ?_
  refine zg_iconst X (v := 0) dX7_items_1 (by decide) ?_
  refine rp_M_thrown X f7 l85 dX7_items_2 ?_
  refine zg_aload_n X dX7_items_5 rfl ?_
  refine rg_M_items X f7 l179 dX7_items_6 ?_
  exact zg_iret X hr dX7_items_9 (Nat.le_of_ble_eq_true rfl) (Nat.le_of_ble_eq_true rfl) (⟨rfl, rfl⟩)

set_option maxHeartbeats 4000000 in
set_option maxRecDepth 100000 in
theorem k_X7_entries (l : Launch) (D : va_G) (ad : Nat → Nat) (T : Nat → ClassId) (σ : ZS)  : zM l yX7_entries wsX7_entries ({ frames := 0, cells := 0, slots := 0, locals := 0 }) D (zT T) [.ref (ad 0)] (wM ad T σ) 0 0 (qI D (zT T) (fun v0 w => v0 = nI (σ.1 5) ∧ w = wM ad T (uN σ 8 0))) := by
  refine zg_of (cc := cX7_entries) (maxL := 1) (ret := (some .int)) (by decide) rfl (Nat.le_of_ble_eq_true rfl) (fun p e s m below meth c A hin hr X => ?_)
  have X : zC p s m _ meth c cX7_entries 1 wsX7_entries RX7 D (zT T) A := X
  have f7 : ∀ w ∈ u_ws RX7 TX7 37, w ∈ wsX7_entries := by decide +kernel
  have l171 : Cond.fieldLink RX7 171 "RecertifyModel" "entries" "I" ∈ wsX7_entries := by decide +kernel
  have l85 : Cond.fieldLink RX7 85 "RecertifyModel" "thrown" "I" ∈ wsX7_entries := by decide +kernel
  refine zg_aload_n X dX7_entries_0 rfl ?_
  refine zg_iconst X (v := 0) dX7_entries_1 (by decide) ?_
  refine rp_M_thrown X f7 l85 dX7_entries_2 ?_
  refine zg_aload_n X dX7_entries_5 rfl ?_
  refine rg_M_entries X f7 l171 dX7_entries_6 ?_
  exact zg_iret X hr dX7_entries_9 (Nat.le_of_ble_eq_true rfl) (Nat.le_of_ble_eq_true rfl) (⟨rfl, rfl⟩)

set_option maxHeartbeats 4000000 in
set_option maxRecDepth 100000 in
theorem k_X7_isOpen (l : Launch) (D : va_G) (ad : Nat → Nat) (T : Nat → ClassId) (σ : ZS) (hO : ∃ P : Bool, σ.2.1 7 = bI (P = true)) : zM l yX7_isOpen wsX7_isOpen ({ frames := 0, cells := 0, slots := 0, locals := 0 }) D (zT T) [.ref (ad 0)] (wM ad T σ) 0 0 (qI D (zT T) (fun v0 w => v0 = σ.2.1 7 ∧ w = wM ad T (uN σ 8 0))) := by
  refine zg_of (cc := cX7_isOpen) (maxL := 1) (ret := (some .boolean)) (by decide) rfl (Nat.le_of_ble_eq_true rfl) (fun p e s m below meth c A hin hr X => ?_)
  have X : zC p s m _ meth c cX7_isOpen 1 wsX7_isOpen RX7 D (zT T) A := X
  have f7 : ∀ w ∈ u_ws RX7 TX7 37, w ∈ wsX7_isOpen := by decide +kernel
  have l175 : Cond.fieldLink RX7 175 "RecertifyModel" "isOpen" "Z" ∈ wsX7_isOpen := by decide +kernel
  have l85 : Cond.fieldLink RX7 85 "RecertifyModel" "thrown" "I" ∈ wsX7_isOpen := by decide +kernel
  refine zg_aload_n X dX7_isOpen_0 rfl ?_
  refine zg_iconst X (v := 0) dX7_isOpen_1 (by decide) ?_
  refine rp_M_thrown X f7 l85 dX7_isOpen_2 ?_
  refine zg_aload_n X dX7_isOpen_5 rfl ?_
  refine rg_M_isOpen X f7 l175 dX7_isOpen_6 ?_
  exact zg_nret X hr ((by obtain ⟨P9, e9⟩ := hO; rw [show (uN σ 8 0).2.1 7 = _ from e9]; exact bI_nar)) dX7_isOpen_9 (Nat.le_of_ble_eq_true rfl) (Nat.le_of_ble_eq_true rfl) (⟨rfl, rfl⟩)

set_option maxHeartbeats 4000000 in
set_option maxRecDepth 100000 in
theorem k_X7_undecided (l : Launch) (D : va_G) (ad : Nat → Nat) (T : Nat → ClassId) (σ : ZS) (hI : zI σ) (hU : zU σ) : zM l yX7_undecided wsX7_undecided ({ frames := 1, cells := 0, slots := 0, locals := 22 }) D (zT T) [.ref (ad 0)] (wM ad T σ) 0 0 (qI D (zT T) (fun v0 w => v0 = nI (σ.1 6) ∧ w = wM ad T (uN σ 8 0))) := by
  have hB0 := hI.bd
  obtain ⟨b0, b1, b2, b3, b4, b5⟩ := hI.bd
  refine zg_of (cc := cX7_undecided) (maxL := 1) (ret := (some .int)) (by decide) rfl (Nat.le_of_ble_eq_true rfl) (fun p e s m below meth c A hin hr X => ?_)
  have X : zC p s m _ meth c cX7_undecided 1 wsX7_undecided RX7 D (zT T) A := X
  have f7 : ∀ w ∈ u_ws RX7 TX7 37, w ∈ wsX7_undecided := by decide +kernel
  have l85 : Cond.fieldLink RX7 85 "RecertifyModel" "thrown" "I" ∈ wsX7_undecided := by decide +kernel
  refine zg_aload_n X dX7_undecided_0 rfl ?_
  refine zg_iconst X (v := 0) dX7_undecided_1 (by decide) ?_
  refine rp_M_thrown X f7 l85 dX7_undecided_2 ?_
  refine zg_aload_n X dX7_undecided_5 rfl ?_
  refine zg_callVi X (k_X7_undecidedMany l D ad T (uN σ 8 0) hB0) zFr.rf gX7_undecided_X7_undecidedMany rfl rfl rfl qv_X7_undecidedMany rfl ⟨Nat.le_of_ble_eq_true rfl, Nat.le_of_ble_eq_true rfl⟩ (q0 := 0) (ci := 9) rfl rfl rfl (Nat.le_of_ble_eq_true rfl) ⟨Nat.le_of_ble_eq_true rfl, Nat.le_of_ble_eq_true rfl⟩ dX7_undecided_6 (fun r w1 hz9 => ?_)
  obtain ⟨rfl, rfl⟩ := hz9
  exact zg_iret X hr dX7_undecided_9 (Nat.le_of_ble_eq_true rfl) (Nat.le_of_ble_eq_true rfl) (⟨congrArg nI (show cntP (σ.2.2 17) (σ.1 4) = σ.1 6 from hU.symm), rfl⟩)

set_option maxHeartbeats 4000000 in
set_option maxRecDepth 100000 in
theorem k_X7_trace (l : Launch) (D : va_G) (ad : Nat → Nat) (T : Nat → ClassId) (σ : ZS) (hI : zI σ)  : zM l yX7_trace wsX7_trace ({ frames := 0, cells := 0, slots := 0, locals := 0 }) D (zT T) [.ref (ad 0)] (wM ad T σ) 0 0 (qL D (zT T) (fun v0 w => v0 = trcI σ ∧ w = wM ad T (uN σ 8 0))) := by
  have hB0 := hI.bd
  obtain ⟨b0, b1, b2, b3, b4, b5⟩ := hI.bd
  refine zg_of (cc := cX7_trace) (maxL := 4) (ret := (some .long)) (by decide) rfl (Nat.le_of_ble_eq_true rfl) (fun p e s m below meth c A hin hr X => ?_)
  have X : zC p s m _ meth c cX7_trace 4 wsX7_trace RX7 D (zT T) A := X
  have f7 : ∀ w ∈ u_ws RX7 TX7 37, w ∈ wsX7_trace := by decide +kernel
  have l171 : Cond.fieldLink RX7 171 "RecertifyModel" "entries" "I" ∈ wsX7_trace := by decide +kernel
  have l254 : Cond.constantLong RX7 254 (31) ∈ wsX7_trace := by decide +kernel
  have l70 : Cond.fieldLink RX7 70 "RecertifyModel" "seals" "[I" ∈ wsX7_trace := by decide +kernel
  have l85 : Cond.fieldLink RX7 85 "RecertifyModel" "thrown" "I" ∈ wsX7_trace := by decide +kernel
  refine zg_aload_n X dX7_trace_0 rfl ?_
  refine zg_iconst X (v := 0) dX7_trace_1 (by decide) ?_
  refine rp_M_thrown X f7 l85 dX7_trace_2 ?_
  refine zg_lconst X (v := 0) dX7_trace_5 rfl ?_
  refine zg_lstore_n X dX7_trace_6 (by decide) ?_
  refine zg_iconst X (v := 0) dX7_trace_7 (by decide) ?_
  refine zg_istore_n X dX7_trace_8 (by decide) ?_
  have LP9 : ∀ (fu : Nat) (i : Nat) (acc : Int64), σ.1 5 + 1 ≤ i + fu → i ≤ σ.1 5 → acc = fN (fun e acc => acc * 31 + (σ.2.2 15 e).toInt64) 0 i → zG p l e (headSpec wsX7_trace ({ frames := 0, cells := 0, slots := 0, locals := 0 })).room s m [.ref (ad 0)].toArray below meth c D 4 A 0 0 (MQ below (qL D (zT T) (fun v0 w => v0 = trcI σ ∧ w = wM ad T (uN σ 8 0)) A) [.ref (ad 0)].toArray s 0 0 A) (wM ad T (uN σ 8 0)) 9 [(0, .ref (ad 0)), (1, .long acc), (3, .int (nI i))] [] := by
    intro fu
    induction fu with
    | zero => intro i acc hfu hii _; exact absurd hfu (by omega)
    | succ fu ih9 =>
      intro i acc hfu hii hacc
      refine zg_iload_n X dX7_trace_9 rfl ?_
      refine zg_aload_n X dX7_trace_10 rfl ?_
      refine rg_M_entries X f7 l171 dX7_trace_11 ?_
      refine zg_icmpn_ge X dX7_trace_14 (tgt := 37) (by decide) (a := i) (b := σ.1 5) (by omega) (by omega) (fun c_14 => ?_) (fun c_14 => ?_)
      · skip
        refine zg_lload_n X dX7_trace_37 rfl ?_
        exact zg_lret X hr dX7_trace_38 (Nat.le_of_ble_eq_true rfl) (Nat.le_of_ble_eq_true rfl) (⟨by rw [hacc, trcI, show i = σ.1 5 by omega], rfl⟩)
      · skip
        refine zg_ldc2 X (v := 31) dX7_trace_17 l254 ?_
        refine zg_lload_n X dX7_trace_20 rfl ?_
        refine zg_lmul X dX7_trace_21 ?_
        refine zg_aload_n X dX7_trace_22 rfl ?_
        refine rg_M_seals X f7 l70 dX7_trace_23 ?_
        refine zg_iload_n X dX7_trace_26 rfl ?_
        refine rlM_seals X (by omega) dX7_trace_27 ?_
        refine zg_i2l X dX7_trace_28 ?_
        refine zg_ladd X dX7_trace_29 ?_
        refine zg_lstore_n X dX7_trace_30 (by decide) ?_
        refine zg_iinc1 X dX7_trace_31 (by decide) rfl ?_
        refine zg_goto X dX7_trace_34 (tgt := 9) (by decide) ?_
        have e31 : (31 : Int64) * acc = acc * 31 := Int64.mul_comm _ _
        exact zg_lv (by exact ⟨rfl, congrArg (fun q => some (Value.long (q + (σ.2.2 15 i).toInt64))) e31, rfl, trivial⟩) (ih9 (i + 1) (acc * 31 + (σ.2.2 15 i).toInt64) (by omega) (by omega) (by rw [fN, ← hacc]))
  exact zg_lv (by exact ⟨rfl, rfl, rfl, trivial⟩) (LP9 (σ.1 5 + 1) 0 _ (by omega) (by omega) rfl)
