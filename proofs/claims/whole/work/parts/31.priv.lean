/-! rows of methods, laid by a program of mine (wip/whole/walk.py) out of the bytecode and annotations -/
theorem qd_X6_countWays : yX6_countWays.cls ≠ "java/lang/invoke/MethodHandle" ∧ yX6_countWays.cls ≠ "java/lang/invoke/VarHandle" ∧ (parseMethodDescriptor yX6_countWays.desc).map (fun d => d.parameters.length) = some 2 := by decide +kernel
theorem qv_X6_countWays : yX6_countWays.cls = RX6 ∧ yX6_countWays.cls ≠ "java/lang/invoke/MethodHandle" ∧ yX6_countWays.cls ≠ "java/lang/invoke/VarHandle" ∧ (parseMethodDescriptor yX6_countWays.desc).map (fun d => d.parameters.length) = some 2 := ⟨rfl, qd_X6_countWays⟩
theorem qd_X6_findGrantedGroups : yX6_findGrantedGroups.cls ≠ "java/lang/invoke/MethodHandle" ∧ yX6_findGrantedGroups.cls ≠ "java/lang/invoke/VarHandle" ∧ (parseMethodDescriptor yX6_findGrantedGroups.desc).map (fun d => d.parameters.length) = some 1 := by decide +kernel
theorem qv_X6_findGrantedGroups : yX6_findGrantedGroups.cls = RX6 ∧ yX6_findGrantedGroups.cls ≠ "java/lang/invoke/MethodHandle" ∧ yX6_findGrantedGroups.cls ≠ "java/lang/invoke/VarHandle" ∧ (parseMethodDescriptor yX6_findGrantedGroups.desc).map (fun d => d.parameters.length) = some 1 := ⟨rfl, qd_X6_findGrantedGroups⟩
theorem qd_X6_findHolders : yX6_findHolders.cls ≠ "java/lang/invoke/MethodHandle" ∧ yX6_findHolders.cls ≠ "java/lang/invoke/VarHandle" ∧ (parseMethodDescriptor yX6_findHolders.desc).map (fun d => d.parameters.length) = some 2 := by decide +kernel
theorem qv_X6_findHolders : yX6_findHolders.cls = RX6 ∧ yX6_findHolders.cls ≠ "java/lang/invoke/MethodHandle" ∧ yX6_findHolders.cls ≠ "java/lang/invoke/VarHandle" ∧ (parseMethodDescriptor yX6_findHolders.desc).map (fun d => d.parameters.length) = some 2 := ⟨rfl, qd_X6_findHolders⟩
theorem qd_X6_findLeastLength : yX6_findLeastLength.cls ≠ "java/lang/invoke/MethodHandle" ∧ yX6_findLeastLength.cls ≠ "java/lang/invoke/VarHandle" ∧ (parseMethodDescriptor yX6_findLeastLength.desc).map (fun d => d.parameters.length) = some 2 := by decide +kernel
theorem qv_X6_findLeastLength : yX6_findLeastLength.cls = RX6 ∧ yX6_findLeastLength.cls ≠ "java/lang/invoke/MethodHandle" ∧ yX6_findLeastLength.cls ≠ "java/lang/invoke/VarHandle" ∧ (parseMethodDescriptor yX6_findLeastLength.desc).map (fun d => d.parameters.length) = some 2 := ⟨rfl, qd_X6_findLeastLength⟩
theorem qd_X6_findReached : yX6_findReached.cls ≠ "java/lang/invoke/MethodHandle" ∧ yX6_findReached.cls ≠ "java/lang/invoke/VarHandle" ∧ (parseMethodDescriptor yX6_findReached.desc).map (fun d => d.parameters.length) = some 1 := by decide +kernel
theorem qv_X6_findReached : yX6_findReached.cls = RX6 ∧ yX6_findReached.cls ≠ "java/lang/invoke/MethodHandle" ∧ yX6_findReached.cls ≠ "java/lang/invoke/VarHandle" ∧ (parseMethodDescriptor yX6_findReached.desc).map (fun d => d.parameters.length) = some 1 := ⟨rfl, qd_X6_findReached⟩
theorem qd_X6_findReviewer : yX6_findReviewer.cls ≠ "java/lang/invoke/MethodHandle" ∧ yX6_findReviewer.cls ≠ "java/lang/invoke/VarHandle" ∧ (parseMethodDescriptor yX6_findReviewer.desc).map (fun d => d.parameters.length) = some 1 := by decide +kernel
theorem qv_X6_findReviewer : yX6_findReviewer.cls = RX6 ∧ yX6_findReviewer.cls ≠ "java/lang/invoke/MethodHandle" ∧ yX6_findReviewer.cls ≠ "java/lang/invoke/VarHandle" ∧ (parseMethodDescriptor yX6_findReviewer.desc).map (fun d => d.parameters.length) = some 1 := ⟨rfl, qd_X6_findReviewer⟩
theorem qd_X6_findRights : yX6_findRights.cls ≠ "java/lang/invoke/MethodHandle" ∧ yX6_findRights.cls ≠ "java/lang/invoke/VarHandle" ∧ (parseMethodDescriptor yX6_findRights.desc).map (fun d => d.parameters.length) = some 1 := by decide +kernel
theorem qv_X6_findRights : yX6_findRights.cls = RX6 ∧ yX6_findRights.cls ≠ "java/lang/invoke/MethodHandle" ∧ yX6_findRights.cls ≠ "java/lang/invoke/VarHandle" ∧ (parseMethodDescriptor yX6_findRights.desc).map (fun d => d.parameters.length) = some 1 := ⟨rfl, qd_X6_findRights⟩
theorem qd_X6_rateGrant : yX6_rateGrant.cls ≠ "java/lang/invoke/MethodHandle" ∧ yX6_rateGrant.cls ≠ "java/lang/invoke/VarHandle" ∧ (parseMethodDescriptor yX6_rateGrant.desc).map (fun d => d.parameters.length) = some 1 := by decide +kernel
theorem qv_X6_rateGrant : yX6_rateGrant.cls = RX6 ∧ yX6_rateGrant.cls ≠ "java/lang/invoke/MethodHandle" ∧ yX6_rateGrant.cls ≠ "java/lang/invoke/VarHandle" ∧ (parseMethodDescriptor yX6_rateGrant.desc).map (fun d => d.parameters.length) = some 1 := ⟨rfl, qd_X6_rateGrant⟩
theorem qd_X6_rateRight : yX6_rateRight.cls ≠ "java/lang/invoke/MethodHandle" ∧ yX6_rateRight.cls ≠ "java/lang/invoke/VarHandle" ∧ (parseMethodDescriptor yX6_rateRight.desc).map (fun d => d.parameters.length) = some 3 := by decide +kernel
theorem qv_X6_rateRight : yX6_rateRight.cls = RX6 ∧ yX6_rateRight.cls ≠ "java/lang/invoke/MethodHandle" ∧ yX6_rateRight.cls ≠ "java/lang/invoke/VarHandle" ∧ (parseMethodDescriptor yX6_rateRight.desc).map (fun d => d.parameters.length) = some 3 := ⟨rfl, qd_X6_rateRight⟩
theorem qd_X6_requireDays : yX6_requireDays.cls ≠ "java/lang/invoke/MethodHandle" ∧ yX6_requireDays.cls ≠ "java/lang/invoke/VarHandle" ∧ (parseMethodDescriptor yX6_requireDays.desc).map (fun d => d.parameters.length) = some 1 := by decide +kernel
theorem qv_X6_requireDays : yX6_requireDays.cls = RX6 ∧ yX6_requireDays.cls ≠ "java/lang/invoke/MethodHandle" ∧ yX6_requireDays.cls ≠ "java/lang/invoke/VarHandle" ∧ (parseMethodDescriptor yX6_requireDays.desc).map (fun d => d.parameters.length) = some 1 := ⟨rfl, qd_X6_requireDays⟩
theorem qd_X6_requireEntry : yX6_requireEntry.cls ≠ "java/lang/invoke/MethodHandle" ∧ yX6_requireEntry.cls ≠ "java/lang/invoke/VarHandle" ∧ (parseMethodDescriptor yX6_requireEntry.desc).map (fun d => d.parameters.length) = some 1 := by decide +kernel
theorem qv_X6_requireEntry : yX6_requireEntry.cls = RX6 ∧ yX6_requireEntry.cls ≠ "java/lang/invoke/MethodHandle" ∧ yX6_requireEntry.cls ≠ "java/lang/invoke/VarHandle" ∧ (parseMethodDescriptor yX6_requireEntry.desc).map (fun d => d.parameters.length) = some 1 := ⟨rfl, qd_X6_requireEntry⟩
theorem qd_X6_requireGrant : yX6_requireGrant.cls ≠ "java/lang/invoke/MethodHandle" ∧ yX6_requireGrant.cls ≠ "java/lang/invoke/VarHandle" ∧ (parseMethodDescriptor yX6_requireGrant.desc).map (fun d => d.parameters.length) = some 1 := by decide +kernel
theorem qv_X6_requireGrant : yX6_requireGrant.cls = RX6 ∧ yX6_requireGrant.cls ≠ "java/lang/invoke/MethodHandle" ∧ yX6_requireGrant.cls ≠ "java/lang/invoke/VarHandle" ∧ (parseMethodDescriptor yX6_requireGrant.desc).map (fun d => d.parameters.length) = some 1 := ⟨rfl, qd_X6_requireGrant⟩
theorem qd_X6_requireGroup : yX6_requireGroup.cls ≠ "java/lang/invoke/MethodHandle" ∧ yX6_requireGroup.cls ≠ "java/lang/invoke/VarHandle" ∧ (parseMethodDescriptor yX6_requireGroup.desc).map (fun d => d.parameters.length) = some 1 := by decide +kernel
theorem qv_X6_requireGroup : yX6_requireGroup.cls = RX6 ∧ yX6_requireGroup.cls ≠ "java/lang/invoke/MethodHandle" ∧ yX6_requireGroup.cls ≠ "java/lang/invoke/VarHandle" ∧ (parseMethodDescriptor yX6_requireGroup.desc).map (fun d => d.parameters.length) = some 1 := ⟨rfl, qd_X6_requireGroup⟩
theorem qd_X6_requireItem : yX6_requireItem.cls ≠ "java/lang/invoke/MethodHandle" ∧ yX6_requireItem.cls ≠ "java/lang/invoke/VarHandle" ∧ (parseMethodDescriptor yX6_requireItem.desc).map (fun d => d.parameters.length) = some 1 := by decide +kernel
theorem qv_X6_requireItem : yX6_requireItem.cls = RX6 ∧ yX6_requireItem.cls ≠ "java/lang/invoke/MethodHandle" ∧ yX6_requireItem.cls ≠ "java/lang/invoke/VarHandle" ∧ (parseMethodDescriptor yX6_requireItem.desc).map (fun d => d.parameters.length) = some 1 := ⟨rfl, qd_X6_requireItem⟩
theorem qd_X6_requirePerson : yX6_requirePerson.cls ≠ "java/lang/invoke/MethodHandle" ∧ yX6_requirePerson.cls ≠ "java/lang/invoke/VarHandle" ∧ (parseMethodDescriptor yX6_requirePerson.desc).map (fun d => d.parameters.length) = some 1 := by decide +kernel
theorem qv_X6_requirePerson : yX6_requirePerson.cls = RX6 ∧ yX6_requirePerson.cls ≠ "java/lang/invoke/MethodHandle" ∧ yX6_requirePerson.cls ≠ "java/lang/invoke/VarHandle" ∧ (parseMethodDescriptor yX6_requirePerson.desc).map (fun d => d.parameters.length) = some 1 := ⟨rfl, qd_X6_requirePerson⟩
theorem qd_X6_requireRight : yX6_requireRight.cls ≠ "java/lang/invoke/MethodHandle" ∧ yX6_requireRight.cls ≠ "java/lang/invoke/VarHandle" ∧ (parseMethodDescriptor yX6_requireRight.desc).map (fun d => d.parameters.length) = some 1 := by decide +kernel
theorem qv_X6_requireRight : yX6_requireRight.cls = RX6 ∧ yX6_requireRight.cls ≠ "java/lang/invoke/MethodHandle" ∧ yX6_requireRight.cls ≠ "java/lang/invoke/VarHandle" ∧ (parseMethodDescriptor yX6_requireRight.desc).map (fun d => d.parameters.length) = some 1 := ⟨rfl, qd_X6_requireRight⟩
theorem qd_X6_requireRoomForGrant : yX6_requireRoomForGrant.cls ≠ "java/lang/invoke/MethodHandle" ∧ yX6_requireRoomForGrant.cls ≠ "java/lang/invoke/VarHandle" ∧ (parseMethodDescriptor yX6_requireRoomForGrant.desc).map (fun d => d.parameters.length) = some 3 := by decide +kernel
theorem qv_X6_requireRoomForGrant : yX6_requireRoomForGrant.cls = RX6 ∧ yX6_requireRoomForGrant.cls ≠ "java/lang/invoke/MethodHandle" ∧ yX6_requireRoomForGrant.cls ≠ "java/lang/invoke/VarHandle" ∧ (parseMethodDescriptor yX6_requireRoomForGrant.desc).map (fun d => d.parameters.length) = some 3 := ⟨rfl, qd_X6_requireRoomForGrant⟩
theorem qd_X6_wouldCutLastHolder : yX6_wouldCutLastHolder.cls ≠ "java/lang/invoke/MethodHandle" ∧ yX6_wouldCutLastHolder.cls ≠ "java/lang/invoke/VarHandle" ∧ (parseMethodDescriptor yX6_wouldCutLastHolder.desc).map (fun d => d.parameters.length) = some 1 := by decide +kernel
theorem qv_X6_wouldCutLastHolder : yX6_wouldCutLastHolder.cls = RX6 ∧ yX6_wouldCutLastHolder.cls ≠ "java/lang/invoke/MethodHandle" ∧ yX6_wouldCutLastHolder.cls ≠ "java/lang/invoke/VarHandle" ∧ (parseMethodDescriptor yX6_wouldCutLastHolder.desc).map (fun d => d.parameters.length) = some 1 := ⟨rfl, qd_X6_wouldCutLastHolder⟩
theorem tq_X6_65 : Bundle.fit "java/lang/IllegalArgumentException" = true ∧ (∀ n ∈ (["java/lang/RuntimeException", "java/lang/Exception"] : List String), Bundle.fit n = true) ∧ (∀ w ∈ (vx_atS RX6 65 "java/lang/IllegalArgumentException" ["java/lang/RuntimeException", "java/lang/Exception"]).filter (fun w => !goodWord w), w ∈ (Cond.castable "java/lang/IllegalArgumentException" "java/lang/IllegalArgumentException" :: zDecl.map (fun q => Cond.declares q) : List Cond)) ∧ (∀ w ∈ Cond.classLink RX6 61 "java/lang/IllegalArgumentException" :: Cond.initialized "java/lang/IllegalArgumentException" :: vx_atS RX6 65 "java/lang/IllegalArgumentException" ["java/lang/RuntimeException", "java/lang/Exception"], vx_ot w = true) := by decide +kernel
theorem tq_X6_79 : Bundle.fit "java/lang/IllegalStateException" = true ∧ (∀ n ∈ (["java/lang/RuntimeException", "java/lang/Exception"] : List String), Bundle.fit n = true) ∧ (∀ w ∈ (vx_atS RX6 79 "java/lang/IllegalStateException" ["java/lang/RuntimeException", "java/lang/Exception"]).filter (fun w => !goodWord w), w ∈ (Cond.castable "java/lang/IllegalStateException" "java/lang/IllegalStateException" :: zDecl.map (fun q => Cond.declares q) : List Cond)) ∧ (∀ w ∈ Cond.classLink RX6 75 "java/lang/IllegalStateException" :: Cond.initialized "java/lang/IllegalStateException" :: vx_atS RX6 79 "java/lang/IllegalStateException" ["java/lang/RuntimeException", "java/lang/Exception"], vx_ot w = true) := by decide +kernel
set_option maxHeartbeats 4000000 in
set_option maxRecDepth 100000 in
theorem k_X6_requirePerson (l : Launch) (hfl : l.stackTraces = false) (D : va_G) (ad : Nat → Nat) (T : Nat → ClassId) (σ : ZS) (hB0 : zBd σ) (x : Int32) : zMX l yX6_requirePerson wsX6_requirePerson ({ frames := 6, cells := 1, slots := 6, locals := 90 }) D (zT T) [.ref (ad 0), .int x] (wC ad T σ) 1 6 (qV D (zT T) (fun w => zIdx x (σ.1 0) ∧ w = wC ad T σ)) (xE D (zT T) (fun E w => (E = eNS ∧ ¬ pIn x (σ.1 0)) ∧ w = wC ad T σ)) := by
  have hB1 := hB0
  obtain ⟨b0, b1, b2, b3, b4, b5⟩ := hB1
  refine zg_ofx (cc := cX6_requirePerson) (maxL := 2) (ret := none) (by decide) rfl (Nat.le_of_ble_eq_true rfl) (fun p e s m below meth c A hno hr X => ?_)
  have X : zC p s m _ meth c cX6_requirePerson 2 wsX6_requirePerson RX6 D (zT T) A := X
  have f6 : ∀ w ∈ u_ws RX6 TX6 9, w ∈ wsX6_requirePerson := by decide +kernel
  have l10 : Cond.fieldLink RX6 10 "Recertify" "people" "LRecertify$People;" ∈ wsX6_requirePerson := by decide +kernel
  have l325 : Cond.classLink RX6 325 "java/util/NoSuchElementException" ∈ wsX6_requirePerson := by decide +kernel
  refine zg_aload_n X dX6_requirePerson_0 rfl ?_
  refine rg_R_people X f6 l10 dX6_requirePerson_1 ?_
  refine zg_iload_n X dX6_requirePerson_4 rfl ?_
  refine zg_callVi X (k_X4_has l D ad T _ hB0 x) zFr.rf gX6_requirePerson_X4_has rfl rfl rfl qv_X4_has rfl ⟨Nat.le_of_ble_eq_true rfl, Nat.le_of_ble_eq_true rfl⟩ (q0 := 1) (ci := 6) rfl rfl rfl (Nat.le_of_ble_eq_true rfl) ⟨Nat.le_of_ble_eq_true rfl, Nat.le_of_ble_eq_true rfl⟩ dX6_requirePerson_5 (fun r w1 hz9 => ?_)
  obtain ⟨rfl, rfl⟩ := hz9
  refine zg_if_neb X dX6_requirePerson_8 (tgt := 22) (by decide) (fun c_8 => ?_) (fun c_8 => ?_)
  · skip
    exact zg_x (zg_vret X hr dX6_requirePerson_22 (Nat.le_of_ble_eq_true rfl) (Nat.le_of_ble_eq_true rfl) (⟨pIn_idx (by omega) c_8, rfl⟩))
  · skip
    exact zg_throwNW X hfl (text := "there is no such person") hno l325 (by decide +kernel) (by decide +kernel) (fun w h => by have h : w ∈ (nqAt).filter goodWord := h; revert w; decide +kernel) dX6_requirePerson_11 dX6_requirePerson_14 dX6_requirePerson_15 dX6_requirePerson_18 dX6_requirePerson_21 ⟨Nat.le_of_ble_eq_true rfl, Nat.le_of_ble_eq_true rfl, Nat.le_of_ble_eq_true rfl, Nat.le_of_ble_eq_true rfl⟩ ⟨Nat.le_of_ble_eq_true rfl, Nat.le_of_ble_eq_true rfl⟩ (⟨⟨rfl, c_8⟩, rfl⟩)

set_option maxHeartbeats 4000000 in
set_option maxRecDepth 100000 in
theorem k_X6_requireGroup (l : Launch) (hfl : l.stackTraces = false) (D : va_G) (ad : Nat → Nat) (T : Nat → ClassId) (σ : ZS) (hB0 : zBd σ) (x : Int32) : zMX l yX6_requireGroup wsX6_requireGroup ({ frames := 6, cells := 1, slots := 6, locals := 90 }) D (zT T) [.ref (ad 0), .int x] (wC ad T σ) 1 6 (qV D (zT T) (fun w => zIdx x (σ.1 1) ∧ w = wC ad T σ)) (xE D (zT T) (fun E w => (E = eNS ∧ ¬ pIn x (σ.1 1)) ∧ w = wC ad T σ)) := by
  have hB1 := hB0
  obtain ⟨b0, b1, b2, b3, b4, b5⟩ := hB1
  refine zg_ofx (cc := cX6_requireGroup) (maxL := 2) (ret := none) (by decide) rfl (Nat.le_of_ble_eq_true rfl) (fun p e s m below meth c A hno hr X => ?_)
  have X : zC p s m _ meth c cX6_requireGroup 2 wsX6_requireGroup RX6 D (zT T) A := X
  have f6 : ∀ w ∈ u_ws RX6 TX6 9, w ∈ wsX6_requireGroup := by decide +kernel
  have l19 : Cond.fieldLink RX6 19 "Recertify" "groups" "LRecertify$Groups;" ∈ wsX6_requireGroup := by decide +kernel
  have l325 : Cond.classLink RX6 325 "java/util/NoSuchElementException" ∈ wsX6_requireGroup := by decide +kernel
  refine zg_aload_n X dX6_requireGroup_0 rfl ?_
  refine rg_R_groups X f6 l19 dX6_requireGroup_1 ?_
  refine zg_iload_n X dX6_requireGroup_4 rfl ?_
  refine zg_callVi X (k_X3_has l D ad T _ hB0 x) zFr.rf gX6_requireGroup_X3_has rfl rfl rfl qv_X3_has rfl ⟨Nat.le_of_ble_eq_true rfl, Nat.le_of_ble_eq_true rfl⟩ (q0 := 2) (ci := 5) rfl rfl rfl (Nat.le_of_ble_eq_true rfl) ⟨Nat.le_of_ble_eq_true rfl, Nat.le_of_ble_eq_true rfl⟩ dX6_requireGroup_5 (fun r w1 hz9 => ?_)
  obtain ⟨rfl, rfl⟩ := hz9
  refine zg_if_neb X dX6_requireGroup_8 (tgt := 22) (by decide) (fun c_8 => ?_) (fun c_8 => ?_)
  · skip
    exact zg_x (zg_vret X hr dX6_requireGroup_22 (Nat.le_of_ble_eq_true rfl) (Nat.le_of_ble_eq_true rfl) (⟨pIn_idx (by omega) c_8, rfl⟩))
  · skip
    exact zg_throwNW X hfl (text := "there is no such group") hno l325 (by decide +kernel) (by decide +kernel) (fun w h => by have h : w ∈ (nqAt).filter goodWord := h; revert w; decide +kernel) dX6_requireGroup_11 dX6_requireGroup_14 dX6_requireGroup_15 dX6_requireGroup_18 dX6_requireGroup_21 ⟨Nat.le_of_ble_eq_true rfl, Nat.le_of_ble_eq_true rfl, Nat.le_of_ble_eq_true rfl, Nat.le_of_ble_eq_true rfl⟩ ⟨Nat.le_of_ble_eq_true rfl, Nat.le_of_ble_eq_true rfl⟩ (⟨⟨rfl, c_8⟩, rfl⟩)

set_option maxHeartbeats 4000000 in
set_option maxRecDepth 100000 in
theorem k_X6_requireRight (l : Launch) (hfl : l.stackTraces = false) (D : va_G) (ad : Nat → Nat) (T : Nat → ClassId) (σ : ZS) (hB0 : zBd σ) (x : Int32) : zMX l yX6_requireRight wsX6_requireRight ({ frames := 6, cells := 1, slots := 6, locals := 90 }) D (zT T) [.ref (ad 0), .int x] (wC ad T σ) 1 6 (qV D (zT T) (fun w => zIdx x (σ.1 2) ∧ w = wC ad T σ)) (xE D (zT T) (fun E w => (E = eNS ∧ ¬ pIn x (σ.1 2)) ∧ w = wC ad T σ)) := by
  have hB1 := hB0
  obtain ⟨b0, b1, b2, b3, b4, b5⟩ := hB1
  refine zg_ofx (cc := cX6_requireRight) (maxL := 2) (ret := none) (by decide) rfl (Nat.le_of_ble_eq_true rfl) (fun p e s m below meth c A hno hr X => ?_)
  have X : zC p s m _ meth c cX6_requireRight 2 wsX6_requireRight RX6 D (zT T) A := X
  have f6 : ∀ w ∈ u_ws RX6 TX6 9, w ∈ wsX6_requireRight := by decide +kernel
  have l26 : Cond.fieldLink RX6 26 "Recertify" "rights" "LRecertify$Rights;" ∈ wsX6_requireRight := by decide +kernel
  have l325 : Cond.classLink RX6 325 "java/util/NoSuchElementException" ∈ wsX6_requireRight := by decide +kernel
  refine zg_aload_n X dX6_requireRight_0 rfl ?_
  refine rg_R_rights X f6 l26 dX6_requireRight_1 ?_
  refine zg_iload_n X dX6_requireRight_4 rfl ?_
  refine zg_callVi X (k_X5_has l D ad T _ hB0 x) zFr.rf gX6_requireRight_X5_has rfl rfl rfl qv_X5_has rfl ⟨Nat.le_of_ble_eq_true rfl, Nat.le_of_ble_eq_true rfl⟩ (q0 := 3) (ci := 7) rfl rfl rfl (Nat.le_of_ble_eq_true rfl) ⟨Nat.le_of_ble_eq_true rfl, Nat.le_of_ble_eq_true rfl⟩ dX6_requireRight_5 (fun r w1 hz9 => ?_)
  obtain ⟨rfl, rfl⟩ := hz9
  refine zg_if_neb X dX6_requireRight_8 (tgt := 22) (by decide) (fun c_8 => ?_) (fun c_8 => ?_)
  · skip
    exact zg_x (zg_vret X hr dX6_requireRight_22 (Nat.le_of_ble_eq_true rfl) (Nat.le_of_ble_eq_true rfl) (⟨pIn_idx (by omega) c_8, rfl⟩))
  · skip
    exact zg_throwNW X hfl (text := "there is no such right") hno l325 (by decide +kernel) (by decide +kernel) (fun w h => by have h : w ∈ (nqAt).filter goodWord := h; revert w; decide +kernel) dX6_requireRight_11 dX6_requireRight_14 dX6_requireRight_15 dX6_requireRight_18 dX6_requireRight_21 ⟨Nat.le_of_ble_eq_true rfl, Nat.le_of_ble_eq_true rfl, Nat.le_of_ble_eq_true rfl, Nat.le_of_ble_eq_true rfl⟩ ⟨Nat.le_of_ble_eq_true rfl, Nat.le_of_ble_eq_true rfl⟩ (⟨⟨rfl, c_8⟩, rfl⟩)

set_option maxHeartbeats 4000000 in
set_option maxRecDepth 100000 in
theorem k_X6_requireGrant (l : Launch) (hfl : l.stackTraces = false) (D : va_G) (ad : Nat → Nat) (T : Nat → ClassId) (σ : ZS) (hB0 : zBd σ) (x : Int32) : zMX l yX6_requireGrant wsX6_requireGrant ({ frames := 6, cells := 1, slots := 6, locals := 90 }) D (zT T) [.ref (ad 0), .int x] (wC ad T σ) 1 6 (qV D (zT T) (fun w => zIdx x (σ.1 3) ∧ w = wC ad T σ)) (xE D (zT T) (fun E w => (E = eNS ∧ ¬ pIn x (σ.1 3)) ∧ w = wC ad T σ)) := by
  have hB1 := hB0
  obtain ⟨b0, b1, b2, b3, b4, b5⟩ := hB1
  refine zg_ofx (cc := cX6_requireGrant) (maxL := 2) (ret := none) (by decide) rfl (Nat.le_of_ble_eq_true rfl) (fun p e s m below meth c A hno hr X => ?_)
  have X : zC p s m _ meth c cX6_requireGrant 2 wsX6_requireGrant RX6 D (zT T) A := X
  have f6 : ∀ w ∈ u_ws RX6 TX6 9, w ∈ wsX6_requireGrant := by decide +kernel
  have l325 : Cond.classLink RX6 325 "java/util/NoSuchElementException" ∈ wsX6_requireGrant := by decide +kernel
  have l33 : Cond.fieldLink RX6 33 "Recertify" "grants" "LRecertify$Grants;" ∈ wsX6_requireGrant := by decide +kernel
  refine zg_aload_n X dX6_requireGrant_0 rfl ?_
  refine rg_R_grants X f6 l33 dX6_requireGrant_1 ?_
  refine zg_iload_n X dX6_requireGrant_4 rfl ?_
  refine zg_callVi X (k_X2_has l D ad T _ hB0 x) zFr.rf gX6_requireGrant_X2_has rfl rfl rfl qv_X2_has rfl ⟨Nat.le_of_ble_eq_true rfl, Nat.le_of_ble_eq_true rfl⟩ (q0 := 4) (ci := 4) rfl rfl rfl (Nat.le_of_ble_eq_true rfl) ⟨Nat.le_of_ble_eq_true rfl, Nat.le_of_ble_eq_true rfl⟩ dX6_requireGrant_5 (fun r w1 hz9 => ?_)
  obtain ⟨rfl, rfl⟩ := hz9
  refine zg_if_neb X dX6_requireGrant_8 (tgt := 22) (by decide) (fun c_8 => ?_) (fun c_8 => ?_)
  · skip
    exact zg_x (zg_vret X hr dX6_requireGrant_22 (Nat.le_of_ble_eq_true rfl) (Nat.le_of_ble_eq_true rfl) (⟨pIn_idx (by omega) c_8, rfl⟩))
  · skip
    exact zg_throwNW X hfl (text := "there is no such grant") hno l325 (by decide +kernel) (by decide +kernel) (fun w h => by have h : w ∈ (nqAt).filter goodWord := h; revert w; decide +kernel) dX6_requireGrant_11 dX6_requireGrant_14 dX6_requireGrant_15 dX6_requireGrant_18 dX6_requireGrant_21 ⟨Nat.le_of_ble_eq_true rfl, Nat.le_of_ble_eq_true rfl, Nat.le_of_ble_eq_true rfl, Nat.le_of_ble_eq_true rfl⟩ ⟨Nat.le_of_ble_eq_true rfl, Nat.le_of_ble_eq_true rfl⟩ (⟨⟨rfl, c_8⟩, rfl⟩)

set_option maxHeartbeats 4000000 in
set_option maxRecDepth 100000 in
theorem k_X6_requireItem (l : Launch) (hfl : l.stackTraces = false) (D : va_G) (ad : Nat → Nat) (T : Nat → ClassId) (σ : ZS) (hB0 : zBd σ) (x : Int32) : zMX l yX6_requireItem wsX6_requireItem ({ frames := 6, cells := 1, slots := 6, locals := 90 }) D (zT T) [.ref (ad 0), .int x] (wC ad T σ) 1 6 (qV D (zT T) (fun w => zIdx x (σ.1 4) ∧ w = wC ad T σ)) (xE D (zT T) (fun E w => (E = eNS ∧ ¬ pIn x (σ.1 4)) ∧ w = wC ad T σ)) := by
  have hB1 := hB0
  obtain ⟨b0, b1, b2, b3, b4, b5⟩ := hB1
  refine zg_ofx (cc := cX6_requireItem) (maxL := 2) (ret := none) (by decide) rfl (Nat.le_of_ble_eq_true rfl) (fun p e s m below meth c A hno hr X => ?_)
  have X : zC p s m _ meth c cX6_requireItem 2 wsX6_requireItem RX6 D (zT T) A := X
  have f6 : ∀ w ∈ u_ws RX6 TX6 9, w ∈ wsX6_requireItem := by decide +kernel
  have l325 : Cond.classLink RX6 325 "java/util/NoSuchElementException" ∈ wsX6_requireItem := by decide +kernel
  have l40 : Cond.fieldLink RX6 40 "Recertify" "campaign" "LRecertify$Campaign;" ∈ wsX6_requireItem := by decide +kernel
  refine zg_aload_n X dX6_requireItem_0 rfl ?_
  refine rg_R_campaign X f6 l40 dX6_requireItem_1 ?_
  refine zg_iload_n X dX6_requireItem_4 rfl ?_
  refine zg_callVi X (k_X0_has l D ad T _ hB0 x) zFr.rf gX6_requireItem_X0_has rfl rfl rfl qv_X0_has rfl ⟨Nat.le_of_ble_eq_true rfl, Nat.le_of_ble_eq_true rfl⟩ (q0 := 5) (ci := 2) rfl rfl rfl (Nat.le_of_ble_eq_true rfl) ⟨Nat.le_of_ble_eq_true rfl, Nat.le_of_ble_eq_true rfl⟩ dX6_requireItem_5 (fun r w1 hz9 => ?_)
  obtain ⟨rfl, rfl⟩ := hz9
  refine zg_if_neb X dX6_requireItem_8 (tgt := 22) (by decide) (fun c_8 => ?_) (fun c_8 => ?_)
  · skip
    exact zg_x (zg_vret X hr dX6_requireItem_22 (Nat.le_of_ble_eq_true rfl) (Nat.le_of_ble_eq_true rfl) (⟨pIn_idx (by omega) c_8, rfl⟩))
  · skip
    exact zg_throwNW X hfl (text := "there is no such item") hno l325 (by decide +kernel) (by decide +kernel) (fun w h => by have h : w ∈ (nqAt).filter goodWord := h; revert w; decide +kernel) dX6_requireItem_11 dX6_requireItem_14 dX6_requireItem_15 dX6_requireItem_18 dX6_requireItem_21 ⟨Nat.le_of_ble_eq_true rfl, Nat.le_of_ble_eq_true rfl, Nat.le_of_ble_eq_true rfl, Nat.le_of_ble_eq_true rfl⟩ ⟨Nat.le_of_ble_eq_true rfl, Nat.le_of_ble_eq_true rfl⟩ (⟨⟨rfl, c_8⟩, rfl⟩)

set_option maxHeartbeats 4000000 in
set_option maxRecDepth 100000 in
theorem k_X6_requireEntry (l : Launch) (hfl : l.stackTraces = false) (D : va_G) (ad : Nat → Nat) (T : Nat → ClassId) (σ : ZS) (hB0 : zBd σ) (x : Int32) : zMX l yX6_requireEntry wsX6_requireEntry ({ frames := 6, cells := 1, slots := 6, locals := 90 }) D (zT T) [.ref (ad 0), .int x] (wC ad T σ) 1 6 (qV D (zT T) (fun w => zIdx x (σ.1 5) ∧ w = wC ad T σ)) (xE D (zT T) (fun E w => (E = eNS ∧ ¬ pIn x (σ.1 5)) ∧ w = wC ad T σ)) := by
  have hB1 := hB0
  obtain ⟨b0, b1, b2, b3, b4, b5⟩ := hB1
  refine zg_ofx (cc := cX6_requireEntry) (maxL := 2) (ret := none) (by decide) rfl (Nat.le_of_ble_eq_true rfl) (fun p e s m below meth c A hno hr X => ?_)
  have X : zC p s m _ meth c cX6_requireEntry 2 wsX6_requireEntry RX6 D (zT T) A := X
  have f6 : ∀ w ∈ u_ws RX6 TX6 9, w ∈ wsX6_requireEntry := by decide +kernel
  have l325 : Cond.classLink RX6 325 "java/util/NoSuchElementException" ∈ wsX6_requireEntry := by decide +kernel
  have l47 : Cond.fieldLink RX6 47 "Recertify" "evidence" "LRecertify$Evidence;" ∈ wsX6_requireEntry := by decide +kernel
  refine zg_aload_n X dX6_requireEntry_0 rfl ?_
  refine rg_R_evidence X f6 l47 dX6_requireEntry_1 ?_
  refine zg_iload_n X dX6_requireEntry_4 rfl ?_
  refine zg_callVi X (k_X1_has l D ad T _ hB0 x) zFr.rf gX6_requireEntry_X1_has rfl rfl rfl qv_X1_has rfl ⟨Nat.le_of_ble_eq_true rfl, Nat.le_of_ble_eq_true rfl⟩ (q0 := 6) (ci := 3) rfl rfl rfl (Nat.le_of_ble_eq_true rfl) ⟨Nat.le_of_ble_eq_true rfl, Nat.le_of_ble_eq_true rfl⟩ dX6_requireEntry_5 (fun r w1 hz9 => ?_)
  obtain ⟨rfl, rfl⟩ := hz9
  refine zg_if_neb X dX6_requireEntry_8 (tgt := 22) (by decide) (fun c_8 => ?_) (fun c_8 => ?_)
  · skip
    exact zg_x (zg_vret X hr dX6_requireEntry_22 (Nat.le_of_ble_eq_true rfl) (Nat.le_of_ble_eq_true rfl) (⟨pIn_idx (by omega) c_8, rfl⟩))
  · skip
    exact zg_throwNW X hfl (text := "there is no such entry") hno l325 (by decide +kernel) (by decide +kernel) (fun w h => by have h : w ∈ (nqAt).filter goodWord := h; revert w; decide +kernel) dX6_requireEntry_11 dX6_requireEntry_14 dX6_requireEntry_15 dX6_requireEntry_18 dX6_requireEntry_21 ⟨Nat.le_of_ble_eq_true rfl, Nat.le_of_ble_eq_true rfl, Nat.le_of_ble_eq_true rfl, Nat.le_of_ble_eq_true rfl⟩ ⟨Nat.le_of_ble_eq_true rfl, Nat.le_of_ble_eq_true rfl⟩ (⟨⟨rfl, c_8⟩, rfl⟩)

set_option maxHeartbeats 4000000 in
set_option maxRecDepth 100000 in
theorem k_X6_requireDays (l : Launch) (hfl : l.stackTraces = false) (D : va_G) (ad : Nat → Nat) (T : Nat → ClassId) (σ : ZS) (x : Int32) : zMX l yX6_requireDays wsX6_requireDays ({ frames := 6, cells := 1, slots := 6, locals := 90 }) D (zT T) [.ref (ad 0), .int x] (wC ad T σ) 1 6 (qV D (zT T) (fun w => (1 ≤ x ∧ x ≤ 30) ∧ w = wC ad T σ)) (xE D (zT T) (fun E w => (E = eIA ∧ ¬ (1 ≤ x ∧ x ≤ 30)) ∧ w = wC ad T σ)) := by
  refine zg_ofx (cc := cX6_requireDays) (maxL := 2) (ret := none) (by decide) rfl (Nat.le_of_ble_eq_true rfl) (fun p e s m below meth c A hno hr X => ?_)
  have X : zC p s m _ meth c cX6_requireDays 2 wsX6_requireDays RX6 D (zT T) A := X
  have l61 : Cond.classLink RX6 61 "java/lang/IllegalArgumentException" ∈ wsX6_requireDays := by decide +kernel
  refine zg_iload_n X dX6_requireDays_0 rfl ?_
  refine zg_iconst X (v := 1) dX6_requireDays_1 (by decide) ?_
  refine zg_icmp_lt X dX6_requireDays_2 (tgt := 11) (by decide) (fun c_2 => ?_) (fun c_2 => ?_)
  · skip
    exact zg_throw X hfl (text := "the number of days is out of range") hno tq_X6_65.1 tq_X6_65.2.1 l61 (by decide +kernel) (by decide +kernel) (fun w h => by have h : w ∈ (vx_atS RX6 65 "java/lang/IllegalArgumentException" ["java/lang/RuntimeException", "java/lang/Exception"]).filter goodWord := h; revert w; decide +kernel) tq_X6_65.2.2.1 (by decide +kernel) tq_X6_65.2.2.2 dX6_requireDays_11 dX6_requireDays_14 dX6_requireDays_15 dX6_requireDays_17 dX6_requireDays_20 ⟨Nat.le_of_ble_eq_true rfl, Nat.le_of_ble_eq_true rfl, Nat.le_of_ble_eq_true rfl, Nat.le_of_ble_eq_true rfl⟩ ⟨Nat.le_of_ble_eq_true rfl, Nat.le_of_ble_eq_true rfl⟩ (⟨⟨rfl, fun h => zi_lt.mp c_2 h.1⟩, rfl⟩)
  · skip
    refine zg_iload_n X dX6_requireDays_5 rfl ?_
    refine zg_bipush X (v := 30) dX6_requireDays_6 (by decide) ?_
    refine zg_icmp_le X dX6_requireDays_8 (tgt := 21) (by decide) (fun c_8 => ?_) (fun c_8 => ?_)
    · skip
      exact zg_x (zg_vret X hr dX6_requireDays_21 (Nat.le_of_ble_eq_true rfl) (Nat.le_of_ble_eq_true rfl) (⟨⟨zi_le.mpr c_2, c_8⟩, rfl⟩))
    · skip
      exact zg_throw X hfl (text := "the number of days is out of range") hno tq_X6_65.1 tq_X6_65.2.1 l61 (by decide +kernel) (by decide +kernel) (fun w h => by have h : w ∈ (vx_atS RX6 65 "java/lang/IllegalArgumentException" ["java/lang/RuntimeException", "java/lang/Exception"]).filter goodWord := h; revert w; decide +kernel) tq_X6_65.2.2.1 (by decide +kernel) tq_X6_65.2.2.2 dX6_requireDays_11 dX6_requireDays_14 dX6_requireDays_15 dX6_requireDays_17 dX6_requireDays_20 ⟨Nat.le_of_ble_eq_true rfl, Nat.le_of_ble_eq_true rfl, Nat.le_of_ble_eq_true rfl, Nat.le_of_ble_eq_true rfl⟩ ⟨Nat.le_of_ble_eq_true rfl, Nat.le_of_ble_eq_true rfl⟩ (⟨⟨rfl, fun h => c_8 h.2⟩, rfl⟩)

set_option maxHeartbeats 4000000 in
set_option maxRecDepth 100000 in
theorem k_X6_requireRoomForGrant (l : Launch) (hfl : l.stackTraces = false) (D : va_G) (ad : Nat → Nat) (T : Nat → ClassId) (σ : ZS) (hB0 : zBd σ) (r x y : Int32) : zMX l yX6_requireRoomForGrant wsX6_requireRoomForGrant ({ frames := 6, cells := 1, slots := 6, locals := 90 }) D (zT T) [.ref (ad 0), .int r, .int x, .int y] (wC ad T σ) 1 6 (qV D (zT T) (fun w => (¬ hasAct σ r x y ∧ σ.1 3 < 24) ∧ w = wC ad T σ)) (xE D (zT T) (fun E w => (E = eIS ∧ (hasAct σ r x y ∨ σ.1 3 = 24)) ∧ w = wC ad T σ)) := by
  have hB1 := hB0
  obtain ⟨b0, b1, b2, b3, b4, b5⟩ := hB1
  refine zg_ofx (cc := cX6_requireRoomForGrant) (maxL := 4) (ret := none) (by decide) rfl (Nat.le_of_ble_eq_true rfl) (fun p e s m below meth c A hno hr X => ?_)
  have X : zC p s m _ meth c cX6_requireRoomForGrant 4 wsX6_requireRoomForGrant RX6 D (zT T) A := X
  have f6 : ∀ w ∈ u_ws RX6 TX6 9, w ∈ wsX6_requireRoomForGrant := by decide +kernel
  have f2 : ∀ w ∈ u_ws RX2 TX2 7, w ∈ wsX6_requireRoomForGrant := by decide +kernel
  have l173 : Cond.fieldLink RX6 173 "Recertify$Grants" "count" "I" ∈ wsX6_requireRoomForGrant := by decide +kernel
  have l33 : Cond.fieldLink RX6 33 "Recertify" "grants" "LRecertify$Grants;" ∈ wsX6_requireRoomForGrant := by decide +kernel
  have l75 : Cond.classLink RX6 75 "java/lang/IllegalStateException" ∈ wsX6_requireRoomForGrant := by decide +kernel
  refine zg_aload_n X dX6_requireRoomForGrant_0 rfl ?_
  refine rg_R_grants X f6 l33 dX6_requireRoomForGrant_1 ?_
  refine zg_iload_n X dX6_requireRoomForGrant_4 rfl ?_
  refine zg_iload_n X dX6_requireRoomForGrant_5 rfl ?_
  refine zg_iload_n X dX6_requireRoomForGrant_6 rfl ?_
  refine zg_callVi X (k_X2_hasActive l D ad T _ hB0 r x y) zFr.rf gX6_requireRoomForGrant_X2_hasActive rfl rfl rfl qv_X2_hasActive rfl ⟨Nat.le_of_ble_eq_true rfl, Nat.le_of_ble_eq_true rfl⟩ (q0 := 4) (ci := 4) rfl rfl rfl (Nat.le_of_ble_eq_true rfl) ⟨Nat.le_of_ble_eq_true rfl, Nat.le_of_ble_eq_true rfl⟩ dX6_requireRoomForGrant_7 (fun r w1 hz9 => ?_)
  obtain ⟨rfl, rfl⟩ := hz9
  refine zg_if_eqb X dX6_requireRoomForGrant_10 (tgt := 24) (by decide) (fun c_10 => ?_) (fun c_10 => ?_)
  · skip
    refine zg_aload_n X dX6_requireRoomForGrant_24 rfl ?_
    refine rg_R_grants X f6 l33 dX6_requireRoomForGrant_25 ?_
    refine rg_Grants_count X f2 l173 dX6_requireRoomForGrant_28 ?_
    refine zg_bipush X (v := 24) dX6_requireRoomForGrant_31 (by decide) ?_
    refine zg_icmpn_lt X dX6_requireRoomForGrant_33 (tgt := 47) (by decide) (a := σ.1 3) (b := 24) (by omega) (by omega) (fun c_33 => ?_) (fun c_33 => ?_)
    · skip
      exact zg_x (zg_vret X hr dX6_requireRoomForGrant_47 (Nat.le_of_ble_eq_true rfl) (Nat.le_of_ble_eq_true rfl) (⟨⟨c_10, by omega⟩, rfl⟩))
    · skip
      exact zg_throwW X hfl (text := "there is no room for another grant") hno tq_X6_79.1 tq_X6_79.2.1 l75 (by decide +kernel) (by decide +kernel) (fun w h => by have h : w ∈ (vx_atS RX6 79 "java/lang/IllegalStateException" ["java/lang/RuntimeException", "java/lang/Exception"]).filter goodWord := h; revert w; decide +kernel) tq_X6_79.2.2.1 (by decide +kernel) tq_X6_79.2.2.2 dX6_requireRoomForGrant_36 dX6_requireRoomForGrant_39 dX6_requireRoomForGrant_40 dX6_requireRoomForGrant_43 dX6_requireRoomForGrant_46 ⟨Nat.le_of_ble_eq_true rfl, Nat.le_of_ble_eq_true rfl, Nat.le_of_ble_eq_true rfl, Nat.le_of_ble_eq_true rfl⟩ ⟨Nat.le_of_ble_eq_true rfl, Nat.le_of_ble_eq_true rfl⟩ (⟨⟨rfl, Or.inr (by omega)⟩, rfl⟩)
  · skip
    exact zg_throwW X hfl (text := "there is an active grant of this right already") hno tq_X6_79.1 tq_X6_79.2.1 l75 (by decide +kernel) (by decide +kernel) (fun w h => by have h : w ∈ (vx_atS RX6 79 "java/lang/IllegalStateException" ["java/lang/RuntimeException", "java/lang/Exception"]).filter goodWord := h; revert w; decide +kernel) tq_X6_79.2.2.1 (by decide +kernel) tq_X6_79.2.2.2 dX6_requireRoomForGrant_13 dX6_requireRoomForGrant_16 dX6_requireRoomForGrant_17 dX6_requireRoomForGrant_20 dX6_requireRoomForGrant_23 ⟨Nat.le_of_ble_eq_true rfl, Nat.le_of_ble_eq_true rfl, Nat.le_of_ble_eq_true rfl, Nat.le_of_ble_eq_true rfl⟩ ⟨Nat.le_of_ble_eq_true rfl, Nat.le_of_ble_eq_true rfl⟩ (⟨⟨rfl, Or.inl c_10⟩, rfl⟩)

set_option maxHeartbeats 4000000 in
set_option maxRecDepth 100000 in
theorem k_X6_findReached (l : Launch) (D : va_G) (ad : Nat → Nat) (T : Nat → ClassId) (σ : ZS) (hI : zI σ) (g : Nat) (hg : g < σ.1 3) : zM l yX6_findReached wsX6_findReached ({ frames := 2, cells := 0, slots := 0, locals := 42 }) D (zT T) [.ref (ad 0), .int (nI g)] (wC ad T σ) 0 0 (qI D (zT T) (fun v0 w => v0 = reachI σ g ∧ w = wC ad T σ)) := by
  have hB0 := hI.bd
  obtain ⟨b0, b1, b2, b3, b4, b5⟩ := hI.bd
  refine zg_of (cc := cX6_findReached) (maxL := 3) (ret := (some .int)) (by decide) rfl (Nat.le_of_ble_eq_true rfl) (fun p e s m below meth c A hin hr X => ?_)
  have X : zC p s m _ meth c cX6_findReached 3 wsX6_findReached RX6 D (zT T) A := X
  have f6 : ∀ w ∈ u_ws RX6 TX6 9, w ∈ wsX6_findReached := by decide +kernel
  have f2 : ∀ w ∈ u_ws RX2 TX2 7, w ∈ wsX6_findReached := by decide +kernel
  have l19 : Cond.fieldLink RX6 19 "Recertify" "groups" "LRecertify$Groups;" ∈ wsX6_findReached := by decide +kernel
  have l33 : Cond.fieldLink RX6 33 "Recertify" "grants" "LRecertify$Grants;" ∈ wsX6_findReached := by decide +kernel
  have l353 : Cond.fieldLink RX6 353 "Recertify$Grants" "people" "[I" ∈ wsX6_findReached := by decide +kernel
  have l355 : Cond.fieldLink RX6 355 "Recertify$Grants" "groups" "[I" ∈ wsX6_findReached := by decide +kernel
  refine zg_aload_n X dX6_findReached_0 rfl ?_
  refine rg_R_grants X f6 l33 dX6_findReached_1 ?_
  refine rg_Grants_people X f2 l353 dX6_findReached_4 ?_
  refine zg_iload_n X dX6_findReached_7 rfl ?_
  refine rlC_gPeople X (by omega) dX6_findReached_8 ?_
  refine zg_istore_n X dX6_findReached_9 (by decide) ?_
  refine zg_iload_n X dX6_findReached_10 rfl ?_
  refine zg_iconst X (v := (-1)) dX6_findReached_11 (by decide) ?_
  refine zg_icmp_ne X dX6_findReached_12 (tgt := 34) (by decide) (fun c_12 => ?_) (fun c_12 => ?_)
  · skip
    refine zg_iload_n X dX6_findReached_34 rfl ?_
    obtain ⟨j, hj, ej⟩ := hI.per g hg c_12
    refine zg_top ej ?_
    refine zg_callSi X (k_X6_bit l D ad T _ j) zFr.rf gX6_findReached_X6_bit rfl rfl rfl qd_X6_bit rfl ⟨Nat.le_of_ble_eq_true rfl, Nat.le_of_ble_eq_true rfl⟩ rfl (Nat.le_of_ble_eq_true rfl) ⟨Nat.le_of_ble_eq_true rfl, Nat.le_of_ble_eq_true rfl⟩ dX6_findReached_35 (fun r w1 hz9 => ?_)
    obtain ⟨rfl, rfl⟩ := hz9
    exact zg_iret X hr dX6_findReached_38 (Nat.le_of_ble_eq_true rfl) (Nat.le_of_ble_eq_true rfl) (⟨by rw [reachI, if_neg c_12, ej, ix_nI (by omega)], rfl⟩)
  · skip
    refine zg_aload_n X dX6_findReached_15 rfl ?_
    refine rg_R_groups X f6 l19 dX6_findReached_16 ?_
    refine zg_aload_n X dX6_findReached_19 rfl ?_
    refine rg_R_grants X f6 l33 dX6_findReached_20 ?_
    refine rg_Grants_groups X f2 l355 dX6_findReached_23 ?_
    refine zg_iload_n X dX6_findReached_26 rfl ?_
    refine rlC_gGroups X (by omega) dX6_findReached_27 ?_
    refine zg_callVi X (k_X3_membersOf l D ad T _ hB0 _) zFr.rf gX6_findReached_X3_membersOf rfl rfl rfl qv_X3_membersOf rfl ⟨Nat.le_of_ble_eq_true rfl, Nat.le_of_ble_eq_true rfl⟩ (q0 := 2) (ci := 5) rfl rfl rfl (Nat.le_of_ble_eq_true rfl) ⟨Nat.le_of_ble_eq_true rfl, Nat.le_of_ble_eq_true rfl⟩ dX6_findReached_28 (fun r w1 hz9 => ?_)
    obtain ⟨rfl, rfl⟩ := hz9
    refine zg_goto X dX6_findReached_31 (tgt := 38) (by decide) ?_
    exact zg_iret X hr dX6_findReached_38 (Nat.le_of_ble_eq_true rfl) (Nat.le_of_ble_eq_true rfl) (⟨by rw [reachI, if_pos c_12], rfl⟩)

set_option maxHeartbeats 4000000 in
set_option maxRecDepth 100000 in
theorem k_X6_findHolders (l : Launch) (D : va_G) (ad : Nat → Nat) (T : Nat → ClassId) (σ : ZS) (hI : zI σ) (r : Nat) (hr0 : r < 10) (x : Int32) : zM l yX6_findHolders wsX6_findHolders ({ frames := 3, cells := 0, slots := 0, locals := 64 }) D (zT T) [.ref (ad 0), .int (nI r), .int x] (wC ad T σ) 0 0 (qI D (zT T) (fun v w => v = holdI σ r x ∧ w = wC ad T σ)) := by
  have hB0 := hI.bd
  obtain ⟨b0, b1, b2, b3, b4, b5⟩ := hI.bd
  refine zg_of (cc := cX6_findHolders) (maxL := 5) (ret := (some .int)) (by decide) rfl (Nat.le_of_ble_eq_true rfl) (fun p e s m below meth c A hin hr X => ?_)
  have X : zC p s m _ meth c cX6_findHolders 5 wsX6_findHolders RX6 D (zT T) A := X
  have f6 : ∀ w ∈ u_ws RX6 TX6 9, w ∈ wsX6_findHolders := by decide +kernel
  have f2 : ∀ w ∈ u_ws RX2 TX2 7, w ∈ wsX6_findHolders := by decide +kernel
  have f5 : ∀ w ∈ u_ws RX5 TX5 5, w ∈ wsX6_findHolders := by decide +kernel
  have l162 : Cond.fieldLink RX6 162 "Recertify$Rights" "denied" "[I" ∈ wsX6_findHolders := by decide +kernel
  have l173 : Cond.fieldLink RX6 173 "Recertify$Grants" "count" "I" ∈ wsX6_findHolders := by decide +kernel
  have l26 : Cond.fieldLink RX6 26 "Recertify" "rights" "LRecertify$Rights;" ∈ wsX6_findHolders := by decide +kernel
  have l33 : Cond.fieldLink RX6 33 "Recertify" "grants" "LRecertify$Grants;" ∈ wsX6_findHolders := by decide +kernel
  refine zg_iconst X (v := 0) dX6_findHolders_0 (by decide) ?_
  refine zg_istore_n X dX6_findHolders_1 (by decide) ?_
  refine zg_iconst X (v := 0) dX6_findHolders_2 (by decide) ?_
  refine zg_istore X dX6_findHolders_3 (by decide) ?_
  have LP5 : ∀ (fu : Nat) (i : Nat) (acc : Int32), σ.1 3 + 1 ≤ i + fu → i ≤ σ.1 3 → acc = fN (holdF σ r x) 0 i → zG p l e (headSpec wsX6_findHolders ({ frames := 3, cells := 0, slots := 0, locals := 64 })).room s m [.ref (ad 0), .int (nI r), .int x].toArray below meth c D 5 A 0 0 (MQ below (qI D (zT T) (fun v w => v = holdI σ r x ∧ w = wC ad T σ) A) [.ref (ad 0), .int (nI r), .int x].toArray s 0 0 A) (wC ad T σ) 5 [(0, .ref (ad 0)), (1, .int (nI r)), (2, .int x), (3, .int acc), (4, .int (nI i))] [] := by
    intro fu
    induction fu with
    | zero => intro i acc hfu hii _; exact absurd hfu (by omega)
    | succ fu ih5 =>
      intro i acc hfu hii hacc
      refine zg_iload X dX6_findHolders_5 rfl ?_
      refine zg_aload_n X dX6_findHolders_7 rfl ?_
      refine rg_R_grants X f6 l33 dX6_findHolders_8 ?_
      refine rg_Grants_count X f2 l173 dX6_findHolders_11 ?_
      refine zg_icmpn_ge X dX6_findHolders_14 (tgt := 51) (by decide) (a := i) (b := σ.1 3) (by omega) (by omega) (fun c_14 => ?_) (fun c_14 => ?_)
      · skip
        refine zg_iload_n X dX6_findHolders_51 rfl ?_
        refine zg_aload_n X dX6_findHolders_52 rfl ?_
        refine rg_R_rights X f6 l26 dX6_findHolders_53 ?_
        refine rg_Rights_denied X f5 l162 dX6_findHolders_56 ?_
        refine zg_iload_n X dX6_findHolders_59 rfl ?_
        refine rlC_denied X (by omega) dX6_findHolders_60 ?_
        refine zg_iconst X (v := (-1)) dX6_findHolders_61 (by decide) ?_
        refine zg_ixor X dX6_findHolders_62 ?_
        refine zg_iand X dX6_findHolders_63 ?_
        exact zg_iret X hr dX6_findHolders_64 (Nat.le_of_ble_eq_true rfl) (Nat.le_of_ble_eq_true rfl) (⟨by rw [hacc, holdI, show i = σ.1 3 by omega], rfl⟩)
      · skip
        refine zg_iload X dX6_findHolders_17 rfl ?_
        refine zg_iload_n X dX6_findHolders_19 rfl ?_
        refine zg_icmp_eq X dX6_findHolders_20 (tgt := 45) (by decide) (fun c_20 => ?_) (fun c_20 => ?_)
        · skip
          refine zg_iinc1 X dX6_findHolders_45 (by decide) rfl ?_
          refine zg_goto X dX6_findHolders_48 (tgt := 5) (by decide) ?_
          exact zg_lv (by exact ⟨rfl, rfl, rfl, rfl, rfl, trivial⟩) (ih5 (i + 1) _ (by omega) (by omega) (by rw [fN, ← hacc, holdF]; exact (if_neg (fun h => h.1 c_20)).symm))
        · skip
          refine zg_aload_n X dX6_findHolders_23 rfl ?_
          refine rg_R_grants X f6 l33 dX6_findHolders_24 ?_
          refine zg_iload X dX6_findHolders_27 rfl ?_
          refine zg_iload_n X dX6_findHolders_29 rfl ?_
          refine zg_callVi X (k_X2_isActiveOf l D ad T _ i (by omega) (nI r)) zFr.rf gX6_findHolders_X2_isActiveOf rfl rfl rfl qv_X2_isActiveOf rfl ⟨Nat.le_of_ble_eq_true rfl, Nat.le_of_ble_eq_true rfl⟩ (q0 := 4) (ci := 4) rfl rfl rfl (Nat.le_of_ble_eq_true rfl) ⟨Nat.le_of_ble_eq_true rfl, Nat.le_of_ble_eq_true rfl⟩ dX6_findHolders_30 (fun r w1 hz9 => ?_)
          obtain ⟨rfl, rfl⟩ := hz9
          refine zg_if_eqb X dX6_findHolders_33 (tgt := 45) (by decide) (fun c_33 => ?_) (fun c_33 => ?_)
          · skip
            refine zg_iinc1 X dX6_findHolders_45 (by decide) rfl ?_
            refine zg_goto X dX6_findHolders_48 (tgt := 5) (by decide) ?_
            exact zg_lv (by exact ⟨rfl, rfl, rfl, rfl, rfl, trivial⟩) (ih5 (i + 1) _ (by omega) (by omega) (by rw [fN, ← hacc, holdF]; exact (if_neg (fun h => c_33 h.2)).symm))
          · skip
            refine zg_iload_n X dX6_findHolders_36 rfl ?_
            refine zg_aload_n X dX6_findHolders_37 rfl ?_
            refine zg_iload X dX6_findHolders_38 rfl ?_
            refine zg_callVi X (k_X6_findReached l D ad T _ hI i (by omega)) zFr.rf gX6_findHolders_X6_findReached rfl rfl rfl qv_X6_findReached rfl ⟨Nat.le_of_ble_eq_true rfl, Nat.le_of_ble_eq_true rfl⟩ (q0 := 0) (ci := 8) rfl rfl rfl (Nat.le_of_ble_eq_true rfl) ⟨Nat.le_of_ble_eq_true rfl, Nat.le_of_ble_eq_true rfl⟩ dX6_findHolders_40 (fun r w1 hz9 => ?_)
            obtain ⟨rfl, rfl⟩ := hz9
            refine zg_ior X dX6_findHolders_43 ?_
            refine zg_istore_n X dX6_findHolders_44 (by decide) ?_
            refine zg_iinc1 X dX6_findHolders_45 (by decide) rfl ?_
            refine zg_goto X dX6_findHolders_48 (tgt := 5) (by decide) ?_
            exact zg_lv (by exact ⟨rfl, rfl, rfl, rfl, rfl, trivial⟩) (ih5 (i + 1) _ (by omega) (by omega) (by rw [fN, ← hacc, holdF]; exact (if_pos ⟨c_20, c_33⟩).symm))
  exact zg_lv (by exact ⟨rfl, rfl, rfl, rfl, rfl, trivial⟩) (LP5 (σ.1 3 + 1) 0 _ (by omega) (by omega) rfl)

set_option maxHeartbeats 4000000 in
set_option maxRecDepth 100000 in
theorem k_X6_findRights (l : Launch) (D : va_G) (ad : Nat → Nat) (T : Nat → ClassId) (σ : ZS) (hI : zI σ) (q : Nat) : zM l yX6_findRights wsX6_findRights ({ frames := 4, cells := 0, slots := 0, locals := 88 }) D (zT T) [.ref (ad 0), .int (nI q)] (wC ad T σ) 0 0 (qI D (zT T) (fun v0 w => v0 = rgtI σ q ∧ w = wC ad T σ)) := by
  have hB0 := hI.bd
  obtain ⟨b0, b1, b2, b3, b4, b5⟩ := hI.bd
  refine zg_of (cc := cX6_findRights) (maxL := 4) (ret := (some .int)) (by decide) rfl (Nat.le_of_ble_eq_true rfl) (fun p e s m below meth c A hin hr X => ?_)
  have X : zC p s m _ meth c cX6_findRights 4 wsX6_findRights RX6 D (zT T) A := X
  have f6 : ∀ w ∈ u_ws RX6 TX6 9, w ∈ wsX6_findRights := by decide +kernel
  have f5 : ∀ w ∈ u_ws RX5 TX5 5, w ∈ wsX6_findRights := by decide +kernel
  have l149 : Cond.fieldLink RX6 149 "Recertify$Rights" "count" "I" ∈ wsX6_findRights := by decide +kernel
  have l26 : Cond.fieldLink RX6 26 "Recertify" "rights" "LRecertify$Rights;" ∈ wsX6_findRights := by decide +kernel
  refine zg_iconst X (v := 0) dX6_findRights_0 (by decide) ?_
  refine zg_istore_n X dX6_findRights_1 (by decide) ?_
  refine zg_iconst X (v := 0) dX6_findRights_2 (by decide) ?_
  refine zg_istore_n X dX6_findRights_3 (by decide) ?_
  have LP4 : ∀ (fu : Nat) (i : Nat) (acc : Int32), σ.1 2 + 1 ≤ i + fu → i ≤ σ.1 2 → acc = fN (rgtF σ q) 0 i → zG p l e (headSpec wsX6_findRights ({ frames := 4, cells := 0, slots := 0, locals := 88 })).room s m [.ref (ad 0), .int (nI q)].toArray below meth c D 4 A 0 0 (MQ below (qI D (zT T) (fun v0 w => v0 = rgtI σ q ∧ w = wC ad T σ) A) [.ref (ad 0), .int (nI q)].toArray s 0 0 A) (wC ad T σ) 4 [(0, .ref (ad 0)), (1, .int (nI q)), (2, .int acc), (3, .int (nI i))] [] := by
    intro fu
    induction fu with
    | zero => intro i acc hfu hii _; exact absurd hfu (by omega)
    | succ fu ih4 =>
      intro i acc hfu hii hacc
      refine zg_iload_n X dX6_findRights_4 rfl ?_
      refine zg_aload_n X dX6_findRights_5 rfl ?_
      refine rg_R_rights X f6 l26 dX6_findRights_6 ?_
      refine rg_Rights_count X f5 l149 dX6_findRights_9 ?_
      refine zg_icmpn_ge X dX6_findRights_12 (tgt := 41) (by decide) (a := i) (b := σ.1 2) (by omega) (by omega) (fun c_12 => ?_) (fun c_12 => ?_)
      · skip
        refine zg_iload_n X dX6_findRights_41 rfl ?_
        exact zg_iret X hr dX6_findRights_42 (Nat.le_of_ble_eq_true rfl) (Nat.le_of_ble_eq_true rfl) (⟨by rw [hacc, rgtI, show i = σ.1 2 by omega], rfl⟩)
      · skip
        refine zg_aload_n X dX6_findRights_15 rfl ?_
        refine zg_iload_n X dX6_findRights_16 rfl ?_
        refine zg_iconst X (v := (-1)) dX6_findRights_17 (by decide) ?_
        refine zg_callVi X (k_X6_findHolders l D ad T _ hI i (by omega) (-1)) zFr.rf gX6_findRights_X6_findHolders rfl rfl rfl qv_X6_findHolders rfl ⟨Nat.le_of_ble_eq_true rfl, Nat.le_of_ble_eq_true rfl⟩ (q0 := 0) (ci := 8) rfl rfl rfl (Nat.le_of_ble_eq_true rfl) ⟨Nat.le_of_ble_eq_true rfl, Nat.le_of_ble_eq_true rfl⟩ dX6_findRights_18 (fun r w1 hz9 => ?_)
        obtain ⟨rfl, rfl⟩ := hz9
        refine zg_iload_n X dX6_findRights_21 rfl ?_
        refine zg_callSi X (k_X6_contains l D ad T _ _ q) zFr.rf gX6_findRights_X6_contains rfl rfl rfl qd_X6_contains rfl ⟨Nat.le_of_ble_eq_true rfl, Nat.le_of_ble_eq_true rfl⟩ rfl (Nat.le_of_ble_eq_true rfl) ⟨Nat.le_of_ble_eq_true rfl, Nat.le_of_ble_eq_true rfl⟩ dX6_findRights_22 (fun r w1 hz9 => ?_)
        obtain ⟨rfl, rfl⟩ := hz9
        refine zg_if_eqb X dX6_findRights_25 (tgt := 35) (by decide) (fun c_25 => ?_) (fun c_25 => ?_)
        · skip
          refine zg_iinc1 X dX6_findRights_35 (by decide) rfl ?_
          refine zg_goto X dX6_findRights_38 (tgt := 4) (by decide) ?_
          exact zg_lv (by exact ⟨rfl, rfl, rfl, rfl, trivial⟩) (ih4 (i + 1) _ (by omega) (by omega) (by rw [fN, ← hacc, rgtF]; exact (if_neg c_25).symm))
        · skip
          refine zg_iload_n X dX6_findRights_28 rfl ?_
          refine zg_iload_n X dX6_findRights_29 rfl ?_
          refine zg_callSi X (k_X6_bit l D ad T _ i) zFr.rf gX6_findRights_X6_bit rfl rfl rfl qd_X6_bit rfl ⟨Nat.le_of_ble_eq_true rfl, Nat.le_of_ble_eq_true rfl⟩ rfl (Nat.le_of_ble_eq_true rfl) ⟨Nat.le_of_ble_eq_true rfl, Nat.le_of_ble_eq_true rfl⟩ dX6_findRights_30 (fun r w1 hz9 => ?_)
          obtain ⟨rfl, rfl⟩ := hz9
          refine zg_ior X dX6_findRights_33 ?_
          refine zg_istore_n X dX6_findRights_34 (by decide) ?_
          refine zg_iinc1 X dX6_findRights_35 (by decide) rfl ?_
          refine zg_goto X dX6_findRights_38 (tgt := 4) (by decide) ?_
          exact zg_lv (by exact ⟨rfl, rfl, rfl, rfl, trivial⟩) (ih4 (i + 1) _ (by omega) (by omega) (by rw [fN, ← hacc, rgtF]; exact (if_pos c_25).symm))
  exact zg_lv (by exact ⟨rfl, rfl, rfl, rfl, trivial⟩) (LP4 (σ.1 2 + 1) 0 _ (by omega) (by omega) rfl)

set_option maxHeartbeats 4000000 in
set_option maxRecDepth 100000 in
theorem k_X6_countWays (l : Launch) (D : va_G) (ad : Nat → Nat) (T : Nat → ClassId) (σ : ZS) (hI : zI σ) (q r : Nat) : zM l yX6_countWays wsX6_countWays ({ frames := 12, cells := 0, slots := 0, locals := 348 }) D (zT T) [.ref (ad 0), .int (nI q), .int (nI r)] (wC ad T σ) 0 0 (qI D (zT T) (fun v0 w => v0 = wayI σ q r ∧ w = wC ad T σ)) := by
  have hB0 := hI.bd
  obtain ⟨b0, b1, b2, b3, b4, b5⟩ := hI.bd
  refine zg_of (cc := cX6_countWays) (maxL := 5) (ret := (some .int)) (by decide) rfl (Nat.le_of_ble_eq_true rfl) (fun p e s m below meth c A hin hr X => ?_)
  have X : zC p s m _ meth c cX6_countWays 5 wsX6_countWays RX6 D (zT T) A := X
  have f6 : ∀ w ∈ u_ws RX6 TX6 9, w ∈ wsX6_countWays := by decide +kernel
  have f2 : ∀ w ∈ u_ws RX2 TX2 7, w ∈ wsX6_countWays := by decide +kernel
  have l173 : Cond.fieldLink RX6 173 "Recertify$Grants" "count" "I" ∈ wsX6_countWays := by decide +kernel
  have l19 : Cond.fieldLink RX6 19 "Recertify" "groups" "LRecertify$Groups;" ∈ wsX6_countWays := by decide +kernel
  have l33 : Cond.fieldLink RX6 33 "Recertify" "grants" "LRecertify$Grants;" ∈ wsX6_countWays := by decide +kernel
  have l353 : Cond.fieldLink RX6 353 "Recertify$Grants" "people" "[I" ∈ wsX6_countWays := by decide +kernel
  have l355 : Cond.fieldLink RX6 355 "Recertify$Grants" "groups" "[I" ∈ wsX6_countWays := by decide +kernel
  refine zg_iconst X (v := 0) dX6_countWays_0 (by decide) ?_
  refine zg_istore_n X dX6_countWays_1 (by decide) ?_
  refine zg_iconst X (v := 0) dX6_countWays_2 (by decide) ?_
  refine zg_istore X dX6_countWays_3 (by decide) ?_
  have LP5 : ∀ (fu : Nat) (i : Nat) (acc : Int32), σ.1 3 + 1 ≤ i + fu → i ≤ σ.1 3 → acc = fN (wayF σ q r) 0 i → zG p l e (headSpec wsX6_countWays ({ frames := 12, cells := 0, slots := 0, locals := 348 })).room s m [.ref (ad 0), .int (nI q), .int (nI r)].toArray below meth c D 5 A 0 0 (MQ below (qI D (zT T) (fun v0 w => v0 = wayI σ q r ∧ w = wC ad T σ) A) [.ref (ad 0), .int (nI q), .int (nI r)].toArray s 0 0 A) (wC ad T σ) 5 [(0, .ref (ad 0)), (1, .int (nI q)), (2, .int (nI r)), (3, .int acc), (4, .int (nI i))] [] := by
    intro fu
    induction fu with
    | zero => intro i acc hfu hii _; exact absurd hfu (by omega)
    | succ fu ih5 =>
      intro i acc hfu hii hacc
      refine zg_iload X dX6_countWays_5 rfl ?_
      refine zg_aload_n X dX6_countWays_7 rfl ?_
      refine rg_R_grants X f6 l33 dX6_countWays_8 ?_
      refine rg_Grants_count X f2 l173 dX6_countWays_11 ?_
      refine zg_icmpn_ge X dX6_countWays_14 (tgt := 74) (by decide) (a := i) (b := σ.1 3) (by omega) (by omega) (fun c_14 => ?_) (fun c_14 => ?_)
      · skip
        refine zg_iload_n X dX6_countWays_74 rfl ?_
        exact zg_iret X hr dX6_countWays_75 (Nat.le_of_ble_eq_true rfl) (Nat.le_of_ble_eq_true rfl) (⟨by rw [hacc, wayI, show i = σ.1 3 by omega], rfl⟩)
      · skip
        refine zg_aload_n X dX6_countWays_17 rfl ?_
        refine rg_R_grants X f6 l33 dX6_countWays_18 ?_
        refine zg_iload X dX6_countWays_21 rfl ?_
        refine zg_iload_n X dX6_countWays_23 rfl ?_
        refine zg_callVi X (k_X2_isActiveOf l D ad T _ i (by omega) (nI r)) zFr.rf gX6_countWays_X2_isActiveOf rfl rfl rfl qv_X2_isActiveOf rfl ⟨Nat.le_of_ble_eq_true rfl, Nat.le_of_ble_eq_true rfl⟩ (q0 := 4) (ci := 4) rfl rfl rfl (Nat.le_of_ble_eq_true rfl) ⟨Nat.le_of_ble_eq_true rfl, Nat.le_of_ble_eq_true rfl⟩ dX6_countWays_24 (fun r w1 hz9 => ?_)
        obtain ⟨rfl, rfl⟩ := hz9
        refine zg_if_eqb X dX6_countWays_27 (tgt := 68) (by decide) (fun c_27 => ?_) (fun c_27 => ?_)
        · skip
          refine zg_iinc1 X dX6_countWays_68 (by decide) rfl ?_
          refine zg_goto X dX6_countWays_71 (tgt := 5) (by decide) ?_
          exact zg_lv (by exact ⟨rfl, rfl, rfl, rfl, rfl, trivial⟩) (ih5 (i + 1) _ (by omega) (by omega) (by rw [fN, ← hacc, wayF, if_neg c_27]))
        · skip
          refine zg_aload_n X dX6_countWays_30 rfl ?_
          refine rg_R_grants X f6 l33 dX6_countWays_31 ?_
          refine rg_Grants_people X f2 l353 dX6_countWays_34 ?_
          refine zg_iload X dX6_countWays_37 rfl ?_
          refine rlC_gPeople X (by omega) dX6_countWays_39 ?_
          refine zg_iload_n X dX6_countWays_40 rfl ?_
          refine zg_icmp_ne X dX6_countWays_41 (tgt := 47) (by decide) (fun c_41 => ?_) (fun c_41 => ?_)
          · skip
            refine zg_iload_n X dX6_countWays_47 rfl ?_
            refine zg_aload_n X dX6_countWays_48 rfl ?_
            refine rg_R_groups X f6 l19 dX6_countWays_49 ?_
            refine zg_aload_n X dX6_countWays_52 rfl ?_
            refine rg_R_grants X f6 l33 dX6_countWays_53 ?_
            refine rg_Grants_groups X f2 l355 dX6_countWays_56 ?_
            refine zg_iload X dX6_countWays_59 rfl ?_
            refine rlC_gGroups X (by omega) dX6_countWays_61 ?_
            refine zg_iload_n X dX6_countWays_62 rfl ?_
            refine zg_callVi X (k_X3_countPaths l D ad T _ hB0 _ q) zFr.rf gX6_countWays_X3_countPaths rfl rfl rfl qv_X3_countPaths rfl ⟨Nat.le_of_ble_eq_true rfl, Nat.le_of_ble_eq_true rfl⟩ (q0 := 2) (ci := 5) rfl rfl rfl (Nat.le_of_ble_eq_true rfl) ⟨Nat.le_of_ble_eq_true rfl, Nat.le_of_ble_eq_true rfl⟩ dX6_countWays_63 (fun r w1 hz9 => ?_)
            obtain ⟨rfl, rfl⟩ := hz9
            refine zg_iadd X dX6_countWays_66 ?_
            refine zg_istore_n X dX6_countWays_67 (by decide) ?_
            refine zg_iinc1 X dX6_countWays_68 (by decide) rfl ?_
            refine zg_goto X dX6_countWays_71 (tgt := 5) (by decide) ?_
            exact zg_lv (by exact ⟨rfl, rfl, rfl, rfl, rfl, trivial⟩) (ih5 (i + 1) _ (by omega) (by omega) (by rw [fN, ← hacc, wayF, if_pos c_27, if_neg c_41]))
          · skip
            refine zg_iinc X dX6_countWays_44 (by decide) rfl (show _ + Int32.ofInt 1 = _ + 1 from rfl) ?_
            refine zg_iload_n X dX6_countWays_47 rfl ?_
            refine zg_aload_n X dX6_countWays_48 rfl ?_
            refine rg_R_groups X f6 l19 dX6_countWays_49 ?_
            refine zg_aload_n X dX6_countWays_52 rfl ?_
            refine rg_R_grants X f6 l33 dX6_countWays_53 ?_
            refine rg_Grants_groups X f2 l355 dX6_countWays_56 ?_
            refine zg_iload X dX6_countWays_59 rfl ?_
            refine rlC_gGroups X (by omega) dX6_countWays_61 ?_
            refine zg_iload_n X dX6_countWays_62 rfl ?_
            refine zg_callVi X (k_X3_countPaths l D ad T _ hB0 _ q) zFr.rf gX6_countWays_X3_countPaths rfl rfl rfl qv_X3_countPaths rfl ⟨Nat.le_of_ble_eq_true rfl, Nat.le_of_ble_eq_true rfl⟩ (q0 := 2) (ci := 5) rfl rfl rfl (Nat.le_of_ble_eq_true rfl) ⟨Nat.le_of_ble_eq_true rfl, Nat.le_of_ble_eq_true rfl⟩ dX6_countWays_63 (fun r w1 hz9 => ?_)
            obtain ⟨rfl, rfl⟩ := hz9
            refine zg_iadd X dX6_countWays_66 ?_
            refine zg_istore_n X dX6_countWays_67 (by decide) ?_
            refine zg_iinc1 X dX6_countWays_68 (by decide) rfl ?_
            refine zg_goto X dX6_countWays_71 (tgt := 5) (by decide) ?_
            exact zg_lv (by exact ⟨rfl, rfl, rfl, rfl, rfl, trivial⟩) (ih5 (i + 1) _ (by omega) (by omega) (by rw [fN, ← hacc, wayF, if_pos c_27, if_pos c_41]))
  exact zg_lv (by exact ⟨rfl, rfl, rfl, rfl, rfl, trivial⟩) (LP5 (σ.1 3 + 1) 0 _ (by omega) (by omega) rfl)

set_option maxHeartbeats 4000000 in
set_option maxRecDepth 100000 in
theorem k_X6_findGrantedGroups (l : Launch) (D : va_G) (ad : Nat → Nat) (T : Nat → ClassId) (σ : ZS) (hI : zI σ) (r : Nat) : zM l yX6_findGrantedGroups wsX6_findGrantedGroups ({ frames := 1, cells := 0, slots := 0, locals := 22 }) D (zT T) [.ref (ad 0), .int (nI r)] (wC ad T σ) 0 0 (qI D (zT T) (fun v0 w => v0 = grgI σ r ∧ w = wC ad T σ)) := by
  have hB0 := hI.bd
  obtain ⟨b0, b1, b2, b3, b4, b5⟩ := hI.bd
  refine zg_of (cc := cX6_findGrantedGroups) (maxL := 4) (ret := (some .int)) (by decide) rfl (Nat.le_of_ble_eq_true rfl) (fun p e s m below meth c A hin hr X => ?_)
  have X : zC p s m _ meth c cX6_findGrantedGroups 4 wsX6_findGrantedGroups RX6 D (zT T) A := X
  have f6 : ∀ w ∈ u_ws RX6 TX6 9, w ∈ wsX6_findGrantedGroups := by decide +kernel
  have f2 : ∀ w ∈ u_ws RX2 TX2 7, w ∈ wsX6_findGrantedGroups := by decide +kernel
  have l173 : Cond.fieldLink RX6 173 "Recertify$Grants" "count" "I" ∈ wsX6_findGrantedGroups := by decide +kernel
  have l33 : Cond.fieldLink RX6 33 "Recertify" "grants" "LRecertify$Grants;" ∈ wsX6_findGrantedGroups := by decide +kernel
  have l353 : Cond.fieldLink RX6 353 "Recertify$Grants" "people" "[I" ∈ wsX6_findGrantedGroups := by decide +kernel
  have l355 : Cond.fieldLink RX6 355 "Recertify$Grants" "groups" "[I" ∈ wsX6_findGrantedGroups := by decide +kernel
  refine zg_iconst X (v := 0) dX6_findGrantedGroups_0 (by decide) ?_
  refine zg_istore_n X dX6_findGrantedGroups_1 (by decide) ?_
  refine zg_iconst X (v := 0) dX6_findGrantedGroups_2 (by decide) ?_
  refine zg_istore_n X dX6_findGrantedGroups_3 (by decide) ?_
  have LP4 : ∀ (fu : Nat) (i : Nat) (acc : Int32), σ.1 3 + 1 ≤ i + fu → i ≤ σ.1 3 → acc = fN (grgF σ r) 0 i → zG p l e (headSpec wsX6_findGrantedGroups ({ frames := 1, cells := 0, slots := 0, locals := 22 })).room s m [.ref (ad 0), .int (nI r)].toArray below meth c D 4 A 0 0 (MQ below (qI D (zT T) (fun v0 w => v0 = grgI σ r ∧ w = wC ad T σ) A) [.ref (ad 0), .int (nI r)].toArray s 0 0 A) (wC ad T σ) 4 [(0, .ref (ad 0)), (1, .int (nI r)), (2, .int acc), (3, .int (nI i))] [] := by
    intro fu
    induction fu with
    | zero => intro i acc hfu hii _; exact absurd hfu (by omega)
    | succ fu ih4 =>
      intro i acc hfu hii hacc
      refine zg_iload_n X dX6_findGrantedGroups_4 rfl ?_
      refine zg_aload_n X dX6_findGrantedGroups_5 rfl ?_
      refine rg_R_grants X f6 l33 dX6_findGrantedGroups_6 ?_
      refine rg_Grants_count X f2 l173 dX6_findGrantedGroups_9 ?_
      refine zg_icmpn_ge X dX6_findGrantedGroups_12 (tgt := 61) (by decide) (a := i) (b := σ.1 3) (by omega) (by omega) (fun c_12 => ?_) (fun c_12 => ?_)
      · skip
        refine zg_iload_n X dX6_findGrantedGroups_61 rfl ?_
        exact zg_iret X hr dX6_findGrantedGroups_62 (Nat.le_of_ble_eq_true rfl) (Nat.le_of_ble_eq_true rfl) (⟨by rw [hacc, grgI, show i = σ.1 3 by omega], rfl⟩)
      · skip
        refine zg_aload_n X dX6_findGrantedGroups_15 rfl ?_
        refine rg_R_grants X f6 l33 dX6_findGrantedGroups_16 ?_
        refine zg_iload_n X dX6_findGrantedGroups_19 rfl ?_
        refine zg_iload_n X dX6_findGrantedGroups_20 rfl ?_
        refine zg_callVi X (k_X2_isActiveOf l D ad T _ i (by omega) (nI r)) zFr.rf gX6_findGrantedGroups_X2_isActiveOf rfl rfl rfl qv_X2_isActiveOf rfl ⟨Nat.le_of_ble_eq_true rfl, Nat.le_of_ble_eq_true rfl⟩ (q0 := 4) (ci := 4) rfl rfl rfl (Nat.le_of_ble_eq_true rfl) ⟨Nat.le_of_ble_eq_true rfl, Nat.le_of_ble_eq_true rfl⟩ dX6_findGrantedGroups_21 (fun r w1 hz9 => ?_)
        obtain ⟨rfl, rfl⟩ := hz9
        refine zg_if_eqb X dX6_findGrantedGroups_24 (tgt := 55) (by decide) (fun c_24 => ?_) (fun c_24 => ?_)
        · skip
          refine zg_iinc1 X dX6_findGrantedGroups_55 (by decide) rfl ?_
          refine zg_goto X dX6_findGrantedGroups_58 (tgt := 4) (by decide) ?_
          exact zg_lv (by exact ⟨rfl, rfl, rfl, rfl, trivial⟩) (ih4 (i + 1) _ (by omega) (by omega) (by rw [fN, ← hacc, grgF]; exact (if_neg (fun h => c_24 h.1)).symm))
        · skip
          refine zg_aload_n X dX6_findGrantedGroups_27 rfl ?_
          refine rg_R_grants X f6 l33 dX6_findGrantedGroups_28 ?_
          refine rg_Grants_people X f2 l353 dX6_findGrantedGroups_31 ?_
          refine zg_iload_n X dX6_findGrantedGroups_34 rfl ?_
          refine rlC_gPeople X (by omega) dX6_findGrantedGroups_35 ?_
          refine zg_iconst X (v := (-1)) dX6_findGrantedGroups_36 (by decide) ?_
          refine zg_icmp_ne X dX6_findGrantedGroups_37 (tgt := 55) (by decide) (fun c_37 => ?_) (fun c_37 => ?_)
          · skip
            refine zg_iinc1 X dX6_findGrantedGroups_55 (by decide) rfl ?_
            refine zg_goto X dX6_findGrantedGroups_58 (tgt := 4) (by decide) ?_
            exact zg_lv (by exact ⟨rfl, rfl, rfl, rfl, trivial⟩) (ih4 (i + 1) _ (by omega) (by omega) (by rw [fN, ← hacc, grgF]; exact (if_neg (fun h => c_37 h.2)).symm))
          · skip
            refine zg_iload_n X dX6_findGrantedGroups_40 rfl ?_
            refine zg_aload_n X dX6_findGrantedGroups_41 rfl ?_
            refine rg_R_grants X f6 l33 dX6_findGrantedGroups_42 ?_
            refine rg_Grants_groups X f2 l355 dX6_findGrantedGroups_45 ?_
            refine zg_iload_n X dX6_findGrantedGroups_48 rfl ?_
            refine rlC_gGroups X (by omega) dX6_findGrantedGroups_49 ?_
            obtain ⟨j, hj, ej⟩ := hI.grp i (by omega) c_37
            refine zg_top ej ?_
            refine zg_callSi X (k_X6_bit l D ad T _ j) zFr.rf gX6_findGrantedGroups_X6_bit rfl rfl rfl qd_X6_bit rfl ⟨Nat.le_of_ble_eq_true rfl, Nat.le_of_ble_eq_true rfl⟩ rfl (Nat.le_of_ble_eq_true rfl) ⟨Nat.le_of_ble_eq_true rfl, Nat.le_of_ble_eq_true rfl⟩ dX6_findGrantedGroups_50 (fun r w1 hz9 => ?_)
            obtain ⟨rfl, rfl⟩ := hz9
            refine zg_ior X dX6_findGrantedGroups_53 ?_
            refine zg_istore_n X dX6_findGrantedGroups_54 (by decide) ?_
            refine zg_iinc1 X dX6_findGrantedGroups_55 (by decide) rfl ?_
            refine zg_goto X dX6_findGrantedGroups_58 (tgt := 4) (by decide) ?_
            exact zg_lv (by exact ⟨rfl, rfl, rfl, rfl, trivial⟩) (ih4 (i + 1) _ (by omega) (by omega) (by rw [fN, ← hacc, grgF, if_pos ⟨c_24, c_37⟩, ej, ix_nI (by omega)]))
  exact zg_lv (by exact ⟨rfl, rfl, rfl, rfl, trivial⟩) (LP4 (σ.1 3 + 1) 0 _ (by omega) (by omega) rfl)

set_option maxHeartbeats 4000000 in
set_option maxRecDepth 100000 in
theorem k_X6_findLeastLength (l : Launch) (D : va_G) (ad : Nat → Nat) (T : Nat → ClassId) (σ : ZS) (hI : zI σ) (q r : Nat) : zM l yX6_findLeastLength wsX6_findLeastLength ({ frames := 3, cells := 0, slots := 0, locals := 67 }) D (zT T) [.ref (ad 0), .int (nI q), .int (nI r)] (wC ad T σ) 0 0 (qI D (zT T) (fun v0 w => v0 = lenI σ q r ∧ w = wC ad T σ)) := by
  have hB0 := hI.bd
  obtain ⟨b0, b1, b2, b3, b4, b5⟩ := hI.bd
  refine zg_of (cc := cX6_findLeastLength) (maxL := 5) (ret := (some .int)) (by decide) rfl (Nat.le_of_ble_eq_true rfl) (fun p e s m below meth c A hin hr X => ?_)
  have X : zC p s m _ meth c cX6_findLeastLength 5 wsX6_findLeastLength RX6 D (zT T) A := X
  have f6 : ∀ w ∈ u_ws RX6 TX6 9, w ∈ wsX6_findLeastLength := by decide +kernel
  have l19 : Cond.fieldLink RX6 19 "Recertify" "groups" "LRecertify$Groups;" ∈ wsX6_findLeastLength := by decide +kernel
  have l33 : Cond.fieldLink RX6 33 "Recertify" "grants" "LRecertify$Grants;" ∈ wsX6_findLeastLength := by decide +kernel
  refine zg_aload_n X dX6_findLeastLength_0 rfl ?_
  refine rg_R_grants X f6 l33 dX6_findLeastLength_1 ?_
  refine zg_iload_n X dX6_findLeastLength_4 rfl ?_
  refine zg_iload_n X dX6_findLeastLength_5 rfl ?_
  refine zg_iconst X (v := (-1)) dX6_findLeastLength_6 (by decide) ?_
  refine zg_callVi X (k_X2_hasActive l D ad T _ hB0 (nI r) (nI q) (-1)) zFr.rf gX6_findLeastLength_X2_hasActive rfl rfl rfl qv_X2_hasActive rfl ⟨Nat.le_of_ble_eq_true rfl, Nat.le_of_ble_eq_true rfl⟩ (q0 := 4) (ci := 4) rfl rfl rfl (Nat.le_of_ble_eq_true rfl) ⟨Nat.le_of_ble_eq_true rfl, Nat.le_of_ble_eq_true rfl⟩ dX6_findLeastLength_7 (fun r w1 hz9 => ?_)
  obtain ⟨rfl, rfl⟩ := hz9
  refine zg_if_eqb X dX6_findLeastLength_10 (tgt := 15) (by decide) (fun c_10 => ?_) (fun c_10 => ?_)
  · skip
    refine zg_aload_n X dX6_findLeastLength_15 rfl ?_
    refine zg_iload_n X dX6_findLeastLength_16 rfl ?_
    refine zg_callVi X (k_X6_findGrantedGroups l D ad T _ hI r) zFr.rf gX6_findLeastLength_X6_findGrantedGroups rfl rfl rfl qv_X6_findGrantedGroups rfl ⟨Nat.le_of_ble_eq_true rfl, Nat.le_of_ble_eq_true rfl⟩ (q0 := 0) (ci := 8) rfl rfl rfl (Nat.le_of_ble_eq_true rfl) ⟨Nat.le_of_ble_eq_true rfl, Nat.le_of_ble_eq_true rfl⟩ dX6_findLeastLength_17 (fun r w1 hz9 => ?_)
    obtain ⟨rfl, rfl⟩ := hz9
    refine zg_istore_n X dX6_findLeastLength_20 (by decide) ?_
    refine zg_iconst X (v := 1) dX6_findLeastLength_21 (by decide) ?_
    refine zg_istore X dX6_findLeastLength_22 (by decide) ?_
    have LP24 : ∀ (fu : Nat) (u : Nat), 8 + 1 ≤ u + fu → u ≤ 8 → (∀ a, a < u → ¬ lenP σ q r a) → zG p l e (headSpec wsX6_findLeastLength ({ frames := 3, cells := 0, slots := 0, locals := 67 })).room s m [.ref (ad 0), .int (nI q), .int (nI r)].toArray below meth c D 5 A 0 0 (MQ below (qI D (zT T) (fun v0 w => v0 = lenI σ q r ∧ w = wC ad T σ) A) [.ref (ad 0), .int (nI q), .int (nI r)].toArray s 0 0 A) (wC ad T σ) 24 [(0, .ref (ad 0)), (1, .int (nI q)), (2, .int (nI r)), (3, .int (grgI σ r)), (4, .int (nI (u + 1)))] [] := by
      intro fu
      induction fu with
      | zero => intro u hfu hiu _; exact absurd hfu (by omega)
      | succ fu ih24 =>
        intro u hfu hiu hq
        refine zg_iload X dX6_findLeastLength_24 rfl ?_
        refine zg_bipush X (v := 8) dX6_findLeastLength_26 (by decide) ?_
        refine zg_icmpn_gt X dX6_findLeastLength_28 (tgt := 55) (by decide) (a := (u + 1)) (b := 8) (by omega) (by omega) (fun c_28 => ?_) (fun c_28 => ?_)
        · skip
          refine zg_iconst X (v := (-1)) dX6_findLeastLength_55 (by decide) ?_
          exact zg_iret X hr dX6_findLeastLength_56 (Nat.le_of_ble_eq_true rfl) (Nat.le_of_ble_eq_true rfl) (⟨(lenI_n c_10 (fun a ha => hq a (by omega))).symm, rfl⟩)
        · skip
          refine zg_iload_n X dX6_findLeastLength_31 rfl ?_
          refine zg_aload_n X dX6_findLeastLength_32 rfl ?_
          refine rg_R_groups X f6 l19 dX6_findLeastLength_33 ?_
          refine zg_iload_n X dX6_findLeastLength_36 rfl ?_
          refine zg_iload X dX6_findLeastLength_37 rfl ?_
          refine zg_callVi X (k_X3_findWithin l D ad T _ hB0 q (u + 1) (by omega)) zFr.rf gX6_findLeastLength_X3_findWithin rfl rfl rfl qv_X3_findWithin rfl ⟨Nat.le_of_ble_eq_true rfl, Nat.le_of_ble_eq_true rfl⟩ (q0 := 2) (ci := 5) rfl rfl rfl (Nat.le_of_ble_eq_true rfl) ⟨Nat.le_of_ble_eq_true rfl, Nat.le_of_ble_eq_true rfl⟩ dX6_findLeastLength_39 (fun r w1 hz9 => ?_)
          obtain ⟨rfl, rfl⟩ := hz9
          refine zg_iand X dX6_findLeastLength_42 ?_
          refine zg_if_eq X dX6_findLeastLength_43 (tgt := 49) (by decide) (fun c_43 => ?_) (fun c_43 => ?_)
          · skip
            refine zg_iinc1 X dX6_findLeastLength_49 (by decide) rfl ?_
            refine zg_goto X dX6_findLeastLength_52 (tgt := 24) (by decide) ?_
            exact zg_lv (by exact ⟨rfl, rfl, rfl, rfl, rfl, trivial⟩) (ih24 (u + 1) (by omega) (by omega) (lt_s hq (fun h => h c_43)))
          · skip
            refine zg_iload X dX6_findLeastLength_46 rfl ?_
            exact zg_iret X hr dX6_findLeastLength_48 (Nat.le_of_ble_eq_true rfl) (Nat.le_of_ble_eq_true rfl) (⟨(lenI_k c_10 (by omega) c_43 hq).symm, rfl⟩)
    exact zg_lv (by exact ⟨rfl, rfl, rfl, rfl, rfl, trivial⟩) (LP24 (8 + 1) 0 (by omega) (by omega) (fun a ha => absurd ha (Nat.not_lt_zero a)))
  · skip
    refine zg_iconst X (v := 0) dX6_findLeastLength_13 (by decide) ?_
    exact zg_iret X hr dX6_findLeastLength_14 (Nat.le_of_ble_eq_true rfl) (Nat.le_of_ble_eq_true rfl) (⟨(lenI_0 c_10).symm, rfl⟩)

set_option maxHeartbeats 4000000 in
set_option maxRecDepth 100000 in
theorem k_X6_rateRight (l : Launch) (D : va_G) (ad : Nat → Nat) (T : Nat → ClassId) (σ : ZS) (hB0 : zBd σ) (r q : Nat) (hr0 : r < 10) (hq0 : q < 10) (h : Int32) : zM l yX6_rateRight wsX6_rateRight ({ frames := 2, cells := 0, slots := 0, locals := 43 }) D (zT T) [.ref (ad 0), .int (nI r), .int (nI q), .int h] (wC ad T σ) 0 0 (qI D (zT T) (fun v w => v = rateI σ r q h ∧ w = wC ad T σ)) := by
  have hB1 := hB0
  obtain ⟨b0, b1, b2, b3, b4, b5⟩ := hB1
  refine zg_of (cc := cX6_rateRight) (maxL := 7) (ret := (some .int)) (by decide) rfl (Nat.le_of_ble_eq_true rfl) (fun p e s m below meth c A hin hr X => ?_)
  have X : zC p s m _ meth c cX6_rateRight 7 wsX6_rateRight RX6 D (zT T) A := X
  have f6 : ∀ w ∈ u_ws RX6 TX6 9, w ∈ wsX6_rateRight := by decide +kernel
  have f5 : ∀ w ∈ u_ws RX5 TX5 5, w ∈ wsX6_rateRight := by decide +kernel
  have l10 : Cond.fieldLink RX6 10 "Recertify" "people" "LRecertify$People;" ∈ wsX6_rateRight := by decide +kernel
  have l26 : Cond.fieldLink RX6 26 "Recertify" "rights" "LRecertify$Rights;" ∈ wsX6_rateRight := by decide +kernel
  have l366 : Cond.fieldLink RX6 366 "Recertify$Rights" "sensitivities" "[I" ∈ wsX6_rateRight := by decide +kernel
  refine zg_bipush X (v := 100) dX6_rateRight_0 (by decide) ?_
  refine zg_aload_n X dX6_rateRight_2 rfl ?_
  refine rg_R_rights X f6 l26 dX6_rateRight_3 ?_
  refine rg_Rights_sensitivities X f5 l366 dX6_rateRight_6 ?_
  refine zg_iload_n X dX6_rateRight_9 rfl ?_
  refine rlC_sens X (by omega) dX6_rateRight_10 ?_
  refine zg_imul X dX6_rateRight_11 ?_
  refine zg_istore X dX6_rateRight_12 (by decide) ?_
  refine zg_aload_n X dX6_rateRight_14 rfl ?_
  refine rg_R_people X f6 l10 dX6_rateRight_15 ?_
  refine zg_iload_n X dX6_rateRight_18 rfl ?_
  refine zg_callVi X (k_X4_findPeers l D ad T _ hB0 q hq0) zFr.rf gX6_rateRight_X4_findPeers rfl rfl rfl qv_X4_findPeers rfl ⟨Nat.le_of_ble_eq_true rfl, Nat.le_of_ble_eq_true rfl⟩ (q0 := 1) (ci := 6) rfl rfl rfl (Nat.le_of_ble_eq_true rfl) ⟨Nat.le_of_ble_eq_true rfl, Nat.le_of_ble_eq_true rfl⟩ dX6_rateRight_19 (fun r w1 hz9 => ?_)
  obtain ⟨rfl, rfl⟩ := hz9
  refine zg_istore X dX6_rateRight_22 (by decide) ?_
  refine zg_iload X dX6_rateRight_24 rfl ?_
  refine zg_callSi X (k_J6_bitCount_0f7a4 l D ad T _ _) zFr.rf gX6_rateRight_J6_bitCount_0f7a4 rfl rfl rfl qd_J6_bitCount_0f7a4 rfl ⟨Nat.le_of_ble_eq_true rfl, Nat.le_of_ble_eq_true rfl⟩ rfl (Nat.le_of_ble_eq_true rfl) ⟨Nat.le_of_ble_eq_true rfl, Nat.le_of_ble_eq_true rfl⟩ dX6_rateRight_26 (fun r w1 hz9 => ?_)
  obtain ⟨rfl, rfl⟩ := hz9
  refine zg_istore X dX6_rateRight_29 (by decide) ?_
  refine zg_iload X dX6_rateRight_31 rfl ?_
  refine zg_if_ne X dX6_rateRight_33 (tgt := 39) (by decide) (fun c_33 => ?_) (fun c_33 => ?_)
  · skip
    refine zg_iload X dX6_rateRight_39 rfl ?_
    refine zg_iload X dX6_rateRight_41 rfl ?_
    refine zg_iload_n X dX6_rateRight_43 rfl ?_
    refine zg_iconst X (v := (-1)) dX6_rateRight_44 (by decide) ?_
    refine zg_ixor X dX6_rateRight_45 ?_
    refine zg_iand X dX6_rateRight_46 ?_
    refine zg_callSi X (k_J6_bitCount_0f7a4 l D ad T _ _) zFr.rf gX6_rateRight_J6_bitCount_0f7a4 rfl rfl rfl qd_J6_bitCount_0f7a4 rfl ⟨Nat.le_of_ble_eq_true rfl, Nat.le_of_ble_eq_true rfl⟩ rfl (Nat.le_of_ble_eq_true rfl) ⟨Nat.le_of_ble_eq_true rfl, Nat.le_of_ble_eq_true rfl⟩ dX6_rateRight_47 (fun r w1 hz9 => ?_)
    obtain ⟨rfl, rfl⟩ := hz9
    refine zg_imul X dX6_rateRight_50 ?_
    refine zg_iload X dX6_rateRight_51 rfl ?_
    refine zg_idiv X dX6_rateRight_53 c_33 ?_
    exact zg_iret X hr dX6_rateRight_54 (Nat.le_of_ble_eq_true rfl) (Nat.le_of_ble_eq_true rfl) (⟨by rw [rateI, if_neg c_33], rfl⟩)
  · skip
    refine zg_iload X dX6_rateRight_36 rfl ?_
    exact zg_iret X hr dX6_rateRight_38 (Nat.le_of_ble_eq_true rfl) (Nat.le_of_ble_eq_true rfl) (⟨by rw [rateI, if_pos c_33], rfl⟩)

set_option maxHeartbeats 4000000 in
set_option maxRecDepth 100000 in
theorem k_X6_rateGrant (l : Launch) (D : va_G) (ad : Nat → Nat) (T : Nat → ClassId) (σ : ZS) (hI : zI σ) (g : Nat) (hg : g < σ.1 3) : zM l yX6_rateGrant wsX6_rateGrant ({ frames := 4, cells := 0, slots := 0, locals := 88 }) D (zT T) [.ref (ad 0), .int (nI g)] (wC ad T σ) 0 0 (qI D (zT T) (fun v w => v = rgI σ g ∧ w = wC ad T σ)) := by
  have hB0 := hI.bd
  obtain ⟨b0, b1, b2, b3, b4, b5⟩ := hI.bd
  refine zg_of (cc := cX6_rateGrant) (maxL := 7) (ret := (some .int)) (by decide) rfl (Nat.le_of_ble_eq_true rfl) (fun p e s m below meth c A hin hr X => ?_)
  have X : zC p s m _ meth c cX6_rateGrant 7 wsX6_rateGrant RX6 D (zT T) A := X
  have f6 : ∀ w ∈ u_ws RX6 TX6 9, w ∈ wsX6_rateGrant := by decide +kernel
  have f2 : ∀ w ∈ u_ws RX2 TX2 7, w ∈ wsX6_rateGrant := by decide +kernel
  have f4 : ∀ w ∈ u_ws RX4 TX4 5, w ∈ wsX6_rateGrant := by decide +kernel
  have l374 : Cond.methodLink RX6 374 Lib.Math.max.name ∈ wsX6_rateGrant := by decide +kernel
  have lmaxc : Cond.code Lib.Math.max.name Lib.Math.max.code 2 (some .int) ∈ wsX6_rateGrant := by decide +kernel
  have lmaxi : Cond.initialized "java/lang/Math" ∈ wsX6_rateGrant := by decide +kernel
  have lmaxs : Cond.static Lib.Math.max.name ∈ wsX6_rateGrant := by decide +kernel
  have l10 : Cond.fieldLink RX6 10 "Recertify" "people" "LRecertify$People;" ∈ wsX6_rateGrant := by decide +kernel
  have l180 : Cond.fieldLink RX6 180 "Recertify$Grants" "lastUses" "[I" ∈ wsX6_rateGrant := by decide +kernel
  have l33 : Cond.fieldLink RX6 33 "Recertify" "grants" "LRecertify$Grants;" ∈ wsX6_rateGrant := by decide +kernel
  have l372 : Cond.fieldLink RX6 372 "Recertify$Grants" "rights" "[I" ∈ wsX6_rateGrant := by decide +kernel
  have l51 : Cond.fieldLink RX6 51 "Recertify" "day" "I" ∈ wsX6_rateGrant := by decide +kernel
  have l72 : Cond.fieldLink RX6 72 "Recertify$People" "count" "I" ∈ wsX6_rateGrant := by decide +kernel
  refine zg_aload_n X dX6_rateGrant_0 rfl ?_
  refine rg_R_grants X f6 l33 dX6_rateGrant_1 ?_
  refine rg_Grants_rights X f2 l372 dX6_rateGrant_4 ?_
  refine zg_iload_n X dX6_rateGrant_7 rfl ?_
  refine rlC_gRight X (by omega) dX6_rateGrant_8 ?_
  obtain ⟨r0, hr0, er⟩ := hI.gRt g hg
  refine zg_top er ?_
  refine zg_istore_n X dX6_rateGrant_9 (by decide) ?_
  refine zg_aload_n X dX6_rateGrant_10 rfl ?_
  refine zg_iload_n X dX6_rateGrant_11 rfl ?_
  refine zg_iconst X (v := (-1)) dX6_rateGrant_12 (by decide) ?_
  refine zg_callVi X (k_X6_findHolders l D ad T _ hI r0 (by omega) (-1)) zFr.rf gX6_rateGrant_X6_findHolders rfl rfl rfl qv_X6_findHolders rfl ⟨Nat.le_of_ble_eq_true rfl, Nat.le_of_ble_eq_true rfl⟩ (q0 := 0) (ci := 8) rfl rfl rfl (Nat.le_of_ble_eq_true rfl) ⟨Nat.le_of_ble_eq_true rfl, Nat.le_of_ble_eq_true rfl⟩ dX6_rateGrant_13 (fun r w1 hz9 => ?_)
  obtain ⟨rfl, rfl⟩ := hz9
  refine zg_istore_n X dX6_rateGrant_16 (by decide) ?_
  refine zg_aload_n X dX6_rateGrant_17 rfl ?_
  refine zg_iload_n X dX6_rateGrant_18 rfl ?_
  refine zg_callVi X (k_X6_findReached l D ad T _ hI g hg) zFr.rf gX6_rateGrant_X6_findReached rfl rfl rfl qv_X6_findReached rfl ⟨Nat.le_of_ble_eq_true rfl, Nat.le_of_ble_eq_true rfl⟩ (q0 := 0) (ci := 8) rfl rfl rfl (Nat.le_of_ble_eq_true rfl) ⟨Nat.le_of_ble_eq_true rfl, Nat.le_of_ble_eq_true rfl⟩ dX6_rateGrant_19 (fun r w1 hz9 => ?_)
  obtain ⟨rfl, rfl⟩ := hz9
  refine zg_istore X dX6_rateGrant_22 (by decide) ?_
  refine zg_iconst X (v := 0) dX6_rateGrant_24 (by decide) ?_
  refine zg_istore X dX6_rateGrant_25 (by decide) ?_
  refine zg_iconst X (v := 0) dX6_rateGrant_27 (by decide) ?_
  refine zg_istore X dX6_rateGrant_28 (by decide) ?_
  have LP30 : ∀ (fu : Nat) (i : Nat) (acc : Int32), σ.1 0 + 1 ≤ i + fu → i ≤ σ.1 0 → acc = fN (rgF σ r0 (reachI σ g) (holdI σ r0 (-1))) 0 i → zG p l e (headSpec wsX6_rateGrant ({ frames := 4, cells := 0, slots := 0, locals := 88 })).room s m [.ref (ad 0), .int (nI g)].toArray below meth c D 7 A 0 0 (MQ below (qI D (zT T) (fun v w => v = rgI σ g ∧ w = wC ad T σ) A) [.ref (ad 0), .int (nI g)].toArray s 0 0 A) (wC ad T σ) 30 [(0, .ref (ad 0)), (1, .int (nI g)), (2, .int (nI r0)), (3, .int (holdI σ r0 (-1))), (4, .int (reachI σ g)), (5, .int acc), (6, .int (nI i))] [] := by
    intro fu
    induction fu with
    | zero => intro i acc hfu hii _; exact absurd hfu (by omega)
    | succ fu ih30 =>
      intro i acc hfu hii hacc
      refine zg_iload X dX6_rateGrant_30 rfl ?_
      refine zg_aload_n X dX6_rateGrant_32 rfl ?_
      refine rg_R_people X f6 l10 dX6_rateGrant_33 ?_
      refine rg_People_count X f4 l72 dX6_rateGrant_36 ?_
      refine zg_icmpn_ge X dX6_rateGrant_39 (tgt := 73) (by decide) (a := i) (b := σ.1 0) (by omega) (by omega) (fun c_39 => ?_) (fun c_39 => ?_)
      · skip
        refine zg_aload_n X dX6_rateGrant_73 rfl ?_
        refine rg_R_day X f6 l51 dX6_rateGrant_74 ?_
        refine zg_aload_n X dX6_rateGrant_77 rfl ?_
        refine rg_R_grants X f6 l33 dX6_rateGrant_78 ?_
        refine rg_Grants_lastUses X f2 l180 dX6_rateGrant_81 ?_
        refine zg_iload_n X dX6_rateGrant_84 rfl ?_
        refine rlC_used X (by omega) dX6_rateGrant_85 ?_
        refine zg_isub X dX6_rateGrant_86 ?_
        refine zg_bipush X (v := 30) dX6_rateGrant_87 (by decide) ?_
        refine zg_icmp_lt X dX6_rateGrant_89 (tgt := 96) (by decide) (fun c_89 => ?_) (fun c_89 => ?_)
        · skip
          refine zg_iconst X (v := 0) dX6_rateGrant_96 (by decide) ?_
          refine zg_istore X dX6_rateGrant_97 (by decide) ?_
          refine zg_iload X dX6_rateGrant_99 rfl ?_
          refine zg_if_eq X dX6_rateGrant_101 (tgt := 112) (by decide) (fun _ => ?_) (fun q => absurd q (by decide))
          refine zg_iload X dX6_rateGrant_112 rfl ?_
          exact zg_iret X hr dX6_rateGrant_114 (Nat.le_of_ble_eq_true rfl) (Nat.le_of_ble_eq_true rfl) (⟨by rw [rgI, if_neg (zi_lt.mp c_89), rgM_of er (by omega), hacc, show i = σ.1 0 by omega], rfl⟩)
        · skip
          refine zg_iconst X (v := 1) dX6_rateGrant_92 (by decide) ?_
          refine zg_goto X dX6_rateGrant_93 (tgt := 97) (by decide) ?_
          refine zg_istore X dX6_rateGrant_97 (by decide) ?_
          refine zg_iload X dX6_rateGrant_99 rfl ?_
          refine zg_if_eq X dX6_rateGrant_101 (tgt := 112) (by decide) (fun q => absurd q (by decide)) (fun _ => ?_)
          refine zg_iload X dX6_rateGrant_104 rfl ?_
          refine zg_bipush X (v := 50) dX6_rateGrant_106 (by decide) ?_
          refine zg_iadd X dX6_rateGrant_108 ?_
          refine zg_goto X dX6_rateGrant_109 (tgt := 114) (by decide) ?_
          exact zg_iret X hr dX6_rateGrant_114 (Nat.le_of_ble_eq_true rfl) (Nat.le_of_ble_eq_true rfl) (⟨by rw [rgI, if_pos (zi_le.mpr c_89), rgM_of er (by omega), hacc, show i = σ.1 0 by omega], rfl⟩)
      · skip
        refine zg_iload X dX6_rateGrant_42 rfl ?_
        refine zg_iload X dX6_rateGrant_44 rfl ?_
        refine zg_callSi X (k_X6_contains l D ad T _ _ i) zFr.rf gX6_rateGrant_X6_contains rfl rfl rfl qd_X6_contains rfl ⟨Nat.le_of_ble_eq_true rfl, Nat.le_of_ble_eq_true rfl⟩ rfl (Nat.le_of_ble_eq_true rfl) ⟨Nat.le_of_ble_eq_true rfl, Nat.le_of_ble_eq_true rfl⟩ dX6_rateGrant_46 (fun r w1 hz9 => ?_)
        obtain ⟨rfl, rfl⟩ := hz9
        refine zg_if_eqb X dX6_rateGrant_49 (tgt := 67) (by decide) (fun c_49 => ?_) (fun c_49 => ?_)
        · skip
          refine zg_iinc1 X dX6_rateGrant_67 (by decide) rfl ?_
          refine zg_goto X dX6_rateGrant_70 (tgt := 30) (by decide) ?_
          exact zg_lv (by exact ⟨rfl, rfl, rfl, rfl, rfl, rfl, rfl, trivial⟩) (ih30 (i + 1) _ (by omega) (by omega) (by rw [fN, ← hacc, rgF, if_neg c_49]; try rfl))
        · skip
          refine zg_iload X dX6_rateGrant_52 rfl ?_
          refine zg_aload_n X dX6_rateGrant_54 rfl ?_
          refine zg_iload_n X dX6_rateGrant_55 rfl ?_
          refine zg_iload X dX6_rateGrant_56 rfl ?_
          refine zg_iload_n X dX6_rateGrant_58 rfl ?_
          refine zg_callVi X (k_X6_rateRight l D ad T _ hB0 r0 i (by omega) (by omega) _) zFr.rf gX6_rateGrant_X6_rateRight rfl rfl rfl qv_X6_rateRight rfl ⟨Nat.le_of_ble_eq_true rfl, Nat.le_of_ble_eq_true rfl⟩ (q0 := 0) (ci := 8) rfl rfl rfl (Nat.le_of_ble_eq_true rfl) ⟨Nat.le_of_ble_eq_true rfl, Nat.le_of_ble_eq_true rfl⟩ dX6_rateGrant_59 (fun r w1 hz9 => ?_)
          obtain ⟨rfl, rfl⟩ := hz9
          refine zg_mmax X l374 lmaxs lmaxi lmaxc (Nat.le_of_ble_eq_true rfl) (Nat.le_of_ble_eq_true rfl) (Nat.le_of_ble_eq_true rfl) (Nat.le_of_ble_eq_true rfl) dX6_rateGrant_62 ?_
          refine zg_istore X dX6_rateGrant_65 (by decide) ?_
          refine zg_iinc1 X dX6_rateGrant_67 (by decide) rfl ?_
          refine zg_goto X dX6_rateGrant_70 (tgt := 30) (by decide) ?_
          exact zg_lv (by exact ⟨rfl, rfl, rfl, rfl, rfl, rfl, rfl, trivial⟩) (ih30 (i + 1) _ (by omega) (by omega) (by rw [fN, ← hacc, rgF, if_pos c_49]; try rfl))
  exact zg_lv (by exact ⟨rfl, rfl, rfl, rfl, rfl, rfl, rfl, trivial⟩) (LP30 (σ.1 0 + 1) 0 _ (by omega) (by omega) rfl)

set_option maxHeartbeats 4000000 in
set_option maxRecDepth 100000 in
theorem k_X6_findReviewer (l : Launch) (D : va_G) (ad : Nat → Nat) (T : Nat → ClassId) (σ : ZS) (hI : zI σ) (g : Nat) (hg : g < σ.1 3) : zM l yX6_findReviewer wsX6_findReviewer ({ frames := 2, cells := 0, slots := 0, locals := 44 }) D (zT T) [.ref (ad 0), .int (nI g)] (wC ad T σ) 0 0 (qI D (zT T) (fun v w => v = revI σ g ∧ w = wC ad T σ)) := by
  have hB0 := hI.bd
  obtain ⟨b0, b1, b2, b3, b4, b5⟩ := hI.bd
  refine zg_of (cc := cX6_findReviewer) (maxL := 6) (ret := (some .int)) (by decide) rfl (Nat.le_of_ble_eq_true rfl) (fun p e s m below meth c A hin hr X => ?_)
  have X : zC p s m _ meth c cX6_findReviewer 6 wsX6_findReviewer RX6 D (zT T) A := X
  have f6 : ∀ w ∈ u_ws RX6 TX6 9, w ∈ wsX6_findReviewer := by decide +kernel
  have f2 : ∀ w ∈ u_ws RX2 TX2 7, w ∈ wsX6_findReviewer := by decide +kernel
  have f4 : ∀ w ∈ u_ws RX4 TX4 5, w ∈ wsX6_findReviewer := by decide +kernel
  have f5 : ∀ w ∈ u_ws RX5 TX5 5, w ∈ wsX6_findReviewer := by decide +kernel
  have l10 : Cond.fieldLink RX6 10 "Recertify" "people" "LRecertify$People;" ∈ wsX6_findReviewer := by decide +kernel
  have l19 : Cond.fieldLink RX6 19 "Recertify" "groups" "LRecertify$Groups;" ∈ wsX6_findReviewer := by decide +kernel
  have l26 : Cond.fieldLink RX6 26 "Recertify" "rights" "LRecertify$Rights;" ∈ wsX6_findReviewer := by decide +kernel
  have l33 : Cond.fieldLink RX6 33 "Recertify" "grants" "LRecertify$Grants;" ∈ wsX6_findReviewer := by decide +kernel
  have l353 : Cond.fieldLink RX6 353 "Recertify$Grants" "people" "[I" ∈ wsX6_findReviewer := by decide +kernel
  have l355 : Cond.fieldLink RX6 355 "Recertify$Grants" "groups" "[I" ∈ wsX6_findReviewer := by decide +kernel
  have l372 : Cond.fieldLink RX6 372 "Recertify$Grants" "rights" "[I" ∈ wsX6_findReviewer := by decide +kernel
  have l382 : Cond.fieldLink RX6 382 "Recertify$People" "managers" "[I" ∈ wsX6_findReviewer := by decide +kernel
  have l385 : Cond.fieldLink RX6 385 "Recertify$Rights" "owners" "[I" ∈ wsX6_findReviewer := by decide +kernel
  have l72 : Cond.fieldLink RX6 72 "Recertify$People" "count" "I" ∈ wsX6_findReviewer := by decide +kernel
  refine zg_aload_n X dX6_findReviewer_0 rfl ?_
  refine rg_R_grants X f6 l33 dX6_findReviewer_1 ?_
  refine rg_Grants_people X f2 l353 dX6_findReviewer_4 ?_
  refine zg_iload_n X dX6_findReviewer_7 rfl ?_
  refine rlC_gPeople X (by omega) dX6_findReviewer_8 ?_
  refine zg_istore_n X dX6_findReviewer_9 (by decide) ?_
  refine zg_iload_n X dX6_findReviewer_10 rfl ?_
  refine zg_iconst X (v := (-1)) dX6_findReviewer_11 (by decide) ?_
  refine zg_icmp_ne X dX6_findReviewer_12 (tgt := 34) (by decide) (fun c_12 => ?_) (fun c_12 => ?_)
  · skip
    refine zg_aload_n X dX6_findReviewer_34 rfl ?_
    refine rg_R_people X f6 l10 dX6_findReviewer_35 ?_
    refine rg_People_managers X f4 l382 dX6_findReviewer_38 ?_
    refine zg_iload_n X dX6_findReviewer_41 rfl ?_
    obtain ⟨j, hj, ej⟩ := hI.per g hg c_12
    refine zg_top ej ?_
    refine rlC_managers X (by omega) dX6_findReviewer_42 ?_
    refine zg_top (v' := closeI σ g) (by first | exact (by rw [closeI, if_neg c_12, ej, ix_nI (by omega)]) | exact (by rw [closeI, if_pos c_12])) ?_
    refine zg_istore_n X dX6_findReviewer_43 (by decide) ?_
    refine zg_aload_n X dX6_findReviewer_44 rfl ?_
    refine rg_R_people X f6 l10 dX6_findReviewer_45 ?_
    refine zg_iload_n X dX6_findReviewer_48 rfl ?_
    refine zg_callVi X (k_X4_firstPresent l D ad T _ hB0 _) zFr.rf gX6_findReviewer_X4_firstPresent rfl rfl rfl qv_X4_firstPresent rfl ⟨Nat.le_of_ble_eq_true rfl, Nat.le_of_ble_eq_true rfl⟩ (q0 := 1) (ci := 6) rfl rfl rfl (Nat.le_of_ble_eq_true rfl) ⟨Nat.le_of_ble_eq_true rfl, Nat.le_of_ble_eq_true rfl⟩ dX6_findReviewer_49 (fun r w1 hz9 => ?_)
    obtain ⟨rfl, rfl⟩ := hz9
    refine zg_istore X dX6_findReviewer_52 (by decide) ?_
    refine zg_iload X dX6_findReviewer_54 rfl ?_
    refine zg_iconst X (v := (-1)) dX6_findReviewer_56 (by decide) ?_
    refine zg_icmp_eq X dX6_findReviewer_57 (tgt := 69) (by decide) (fun c_57 => ?_) (fun c_57 => ?_)
    · skip
      have n1 : ¬ revOk (fpI σ (σ.1 0) (closeI σ g)) (σ.2.2 21 g) := (by first | exact (fun h => h.1 c_57) | exact (fun h => h.2 c_63))
      refine zg_aload_n X dX6_findReviewer_69 rfl ?_
      refine rg_R_people X f6 l10 dX6_findReviewer_70 ?_
      refine zg_aload_n X dX6_findReviewer_73 rfl ?_
      refine rg_R_rights X f6 l26 dX6_findReviewer_74 ?_
      refine rg_Rights_owners X f5 l385 dX6_findReviewer_77 ?_
      refine zg_aload_n X dX6_findReviewer_80 rfl ?_
      refine rg_R_grants X f6 l33 dX6_findReviewer_81 ?_
      refine rg_Grants_rights X f2 l372 dX6_findReviewer_84 ?_
      refine zg_iload_n X dX6_findReviewer_87 rfl ?_
      refine rlC_gRight X (by omega) dX6_findReviewer_88 ?_
      obtain ⟨r0, hr0, er⟩ := hI.gRt g hg
      refine zg_top er ?_
      refine rlC_rOwners X (by omega) dX6_findReviewer_89 ?_
      refine zg_callVi X (k_X4_firstPresent l D ad T _ hB0 _) zFr.rf gX6_findReviewer_X4_firstPresent rfl rfl rfl qv_X4_firstPresent rfl ⟨Nat.le_of_ble_eq_true rfl, Nat.le_of_ble_eq_true rfl⟩ (q0 := 1) (ci := 6) rfl rfl rfl (Nat.le_of_ble_eq_true rfl) ⟨Nat.le_of_ble_eq_true rfl, Nat.le_of_ble_eq_true rfl⟩ dX6_findReviewer_90 (fun r w1 hz9 => ?_)
      obtain ⟨rfl, rfl⟩ := hz9
      refine zg_istore X dX6_findReviewer_93 (by decide) ?_
      refine zg_iload X dX6_findReviewer_95 rfl ?_
      refine zg_iconst X (v := (-1)) dX6_findReviewer_97 (by decide) ?_
      refine zg_icmp_eq X dX6_findReviewer_98 (tgt := 110) (by decide) (fun c_98 => ?_) (fun c_98 => ?_)
      · skip
        have n2 : ¬ revOk (fpI σ (σ.1 0) (σ.2.2 7 r0)) (σ.2.2 21 g) := (by first | exact (fun h => h.1 c_98) | exact (fun h => h.2 c_104))
        refine zg_iconst X (v := 0) dX6_findReviewer_110 (by decide) ?_
        refine zg_istore X dX6_findReviewer_111 (by decide) ?_
        have LP113 : ∀ (fu : Nat) (i : Nat), σ.1 0 + 1 ≤ i + fu → i ≤ σ.1 0 → (∀ a, a < i → ¬ revOk (fpI σ (σ.1 0) (nI a)) (σ.2.2 21 g)) → zG p l e (headSpec wsX6_findReviewer ({ frames := 2, cells := 0, slots := 0, locals := 44 })).room s m [.ref (ad 0), .int (nI g)].toArray below meth c D 6 A 0 0 (MQ below (qI D (zT T) (fun v w => v = revI σ g ∧ w = wC ad T σ) A) [.ref (ad 0), .int (nI g)].toArray s 0 0 A) (wC ad T σ) 113 [(0, .ref (ad 0)), (1, .int (nI g)), (2, .int (σ.2.2 21 g)), (5, .int (nI i))] [] := by
          intro fu
          induction fu with
          | zero => intro i hfu hii _; exact absurd hfu (by omega)
          | succ fu ih113 =>
            intro i hfu hii hq
            refine zg_iload X dX6_findReviewer_113 rfl ?_
            refine zg_aload_n X dX6_findReviewer_115 rfl ?_
            refine rg_R_people X f6 l10 dX6_findReviewer_116 ?_
            refine rg_People_count X f4 l72 dX6_findReviewer_119 ?_
            refine zg_icmpn_ge X dX6_findReviewer_122 (tgt := 157) (by decide) (a := i) (b := σ.1 0) (by omega) (by omega) (fun c_122 => ?_) (fun c_122 => ?_)
            · skip
              refine zg_iconst X (v := (-1)) dX6_findReviewer_157 (by decide) ?_
              exact zg_iret X hr dX6_findReviewer_158 (Nat.le_of_ble_eq_true rfl) (Nat.le_of_ble_eq_true rfl) (⟨by rw [revI, if_neg n1, er, ix_nI (by omega), if_neg n2, revL_none (fun a ha => hq a (by omega))], rfl⟩)
            · skip
              refine zg_aload_n X dX6_findReviewer_125 rfl ?_
              refine rg_R_people X f6 l10 dX6_findReviewer_126 ?_
              refine zg_iload X dX6_findReviewer_129 rfl ?_
              refine zg_callVi X (k_X4_firstPresent l D ad T _ hB0 _) zFr.rf gX6_findReviewer_X4_firstPresent rfl rfl rfl qv_X4_firstPresent rfl ⟨Nat.le_of_ble_eq_true rfl, Nat.le_of_ble_eq_true rfl⟩ (q0 := 1) (ci := 6) rfl rfl rfl (Nat.le_of_ble_eq_true rfl) ⟨Nat.le_of_ble_eq_true rfl, Nat.le_of_ble_eq_true rfl⟩ dX6_findReviewer_131 (fun r w1 hz9 => ?_)
              obtain ⟨rfl, rfl⟩ := hz9
              refine zg_istore X dX6_findReviewer_134 (by decide) ?_
              refine zg_iload X dX6_findReviewer_136 rfl ?_
              refine zg_iconst X (v := (-1)) dX6_findReviewer_138 (by decide) ?_
              refine zg_icmp_eq X dX6_findReviewer_139 (tgt := 151) (by decide) (fun c_139 => ?_) (fun c_139 => ?_)
              · skip
                refine zg_iinc1 X dX6_findReviewer_151 (by decide) rfl ?_
                refine zg_goto X dX6_findReviewer_154 (tgt := 113) (by decide) ?_
                exact zg_lv (by exact ⟨rfl, rfl, rfl, rfl, trivial⟩) (ih113 (i + 1) (by omega) (by omega) (lt_s hq (fun h => h.1 c_139)))
              · skip
                refine zg_iload X dX6_findReviewer_142 rfl ?_
                refine zg_iload_n X dX6_findReviewer_144 rfl ?_
                refine zg_icmp_eq X dX6_findReviewer_145 (tgt := 151) (by decide) (fun c_145 => ?_) (fun c_145 => ?_)
                · skip
                  refine zg_iinc1 X dX6_findReviewer_151 (by decide) rfl ?_
                  refine zg_goto X dX6_findReviewer_154 (tgt := 113) (by decide) ?_
                  exact zg_lv (by exact ⟨rfl, rfl, rfl, rfl, trivial⟩) (ih113 (i + 1) (by omega) (by omega) (lt_s hq (fun h => h.2 c_145)))
                · skip
                  refine zg_iload X dX6_findReviewer_148 rfl ?_
                  exact zg_iret X hr dX6_findReviewer_150 (Nat.le_of_ble_eq_true rfl) (Nat.le_of_ble_eq_true rfl) (⟨by rw [revI, if_neg n1, er, ix_nI (by omega), if_neg n2, revL_some (by omega) ⟨c_139, c_145⟩ hq], rfl⟩)
        exact zg_lv (by exact ⟨rfl, rfl, rfl, rfl, trivial⟩) (LP113 (σ.1 0 + 1) 0 (by omega) (by omega) (fun a ha => absurd ha (Nat.not_lt_zero a)))
      · skip
        refine zg_iload X dX6_findReviewer_101 rfl ?_
        refine zg_iload_n X dX6_findReviewer_103 rfl ?_
        refine zg_icmp_eq X dX6_findReviewer_104 (tgt := 110) (by decide) (fun c_104 => ?_) (fun c_104 => ?_)
        · skip
          have n2 : ¬ revOk (fpI σ (σ.1 0) (σ.2.2 7 r0)) (σ.2.2 21 g) := (by first | exact (fun h => h.1 c_98) | exact (fun h => h.2 c_104))
          refine zg_iconst X (v := 0) dX6_findReviewer_110 (by decide) ?_
          refine zg_istore X dX6_findReviewer_111 (by decide) ?_
          have LP113 : ∀ (fu : Nat) (i : Nat), σ.1 0 + 1 ≤ i + fu → i ≤ σ.1 0 → (∀ a, a < i → ¬ revOk (fpI σ (σ.1 0) (nI a)) (σ.2.2 21 g)) → zG p l e (headSpec wsX6_findReviewer ({ frames := 2, cells := 0, slots := 0, locals := 44 })).room s m [.ref (ad 0), .int (nI g)].toArray below meth c D 6 A 0 0 (MQ below (qI D (zT T) (fun v w => v = revI σ g ∧ w = wC ad T σ) A) [.ref (ad 0), .int (nI g)].toArray s 0 0 A) (wC ad T σ) 113 [(0, .ref (ad 0)), (1, .int (nI g)), (2, .int (σ.2.2 21 g)), (5, .int (nI i))] [] := by
            intro fu
            induction fu with
            | zero => intro i hfu hii _; exact absurd hfu (by omega)
            | succ fu ih113 =>
              intro i hfu hii hq
              refine zg_iload X dX6_findReviewer_113 rfl ?_
              refine zg_aload_n X dX6_findReviewer_115 rfl ?_
              refine rg_R_people X f6 l10 dX6_findReviewer_116 ?_
              refine rg_People_count X f4 l72 dX6_findReviewer_119 ?_
              refine zg_icmpn_ge X dX6_findReviewer_122 (tgt := 157) (by decide) (a := i) (b := σ.1 0) (by omega) (by omega) (fun c_122 => ?_) (fun c_122 => ?_)
              · skip
                refine zg_iconst X (v := (-1)) dX6_findReviewer_157 (by decide) ?_
                exact zg_iret X hr dX6_findReviewer_158 (Nat.le_of_ble_eq_true rfl) (Nat.le_of_ble_eq_true rfl) (⟨by rw [revI, if_neg n1, er, ix_nI (by omega), if_neg n2, revL_none (fun a ha => hq a (by omega))], rfl⟩)
              · skip
                refine zg_aload_n X dX6_findReviewer_125 rfl ?_
                refine rg_R_people X f6 l10 dX6_findReviewer_126 ?_
                refine zg_iload X dX6_findReviewer_129 rfl ?_
                refine zg_callVi X (k_X4_firstPresent l D ad T _ hB0 _) zFr.rf gX6_findReviewer_X4_firstPresent rfl rfl rfl qv_X4_firstPresent rfl ⟨Nat.le_of_ble_eq_true rfl, Nat.le_of_ble_eq_true rfl⟩ (q0 := 1) (ci := 6) rfl rfl rfl (Nat.le_of_ble_eq_true rfl) ⟨Nat.le_of_ble_eq_true rfl, Nat.le_of_ble_eq_true rfl⟩ dX6_findReviewer_131 (fun r w1 hz9 => ?_)
                obtain ⟨rfl, rfl⟩ := hz9
                refine zg_istore X dX6_findReviewer_134 (by decide) ?_
                refine zg_iload X dX6_findReviewer_136 rfl ?_
                refine zg_iconst X (v := (-1)) dX6_findReviewer_138 (by decide) ?_
                refine zg_icmp_eq X dX6_findReviewer_139 (tgt := 151) (by decide) (fun c_139 => ?_) (fun c_139 => ?_)
                · skip
                  refine zg_iinc1 X dX6_findReviewer_151 (by decide) rfl ?_
                  refine zg_goto X dX6_findReviewer_154 (tgt := 113) (by decide) ?_
                  exact zg_lv (by exact ⟨rfl, rfl, rfl, rfl, trivial⟩) (ih113 (i + 1) (by omega) (by omega) (lt_s hq (fun h => h.1 c_139)))
                · skip
                  refine zg_iload X dX6_findReviewer_142 rfl ?_
                  refine zg_iload_n X dX6_findReviewer_144 rfl ?_
                  refine zg_icmp_eq X dX6_findReviewer_145 (tgt := 151) (by decide) (fun c_145 => ?_) (fun c_145 => ?_)
                  · skip
                    refine zg_iinc1 X dX6_findReviewer_151 (by decide) rfl ?_
                    refine zg_goto X dX6_findReviewer_154 (tgt := 113) (by decide) ?_
                    exact zg_lv (by exact ⟨rfl, rfl, rfl, rfl, trivial⟩) (ih113 (i + 1) (by omega) (by omega) (lt_s hq (fun h => h.2 c_145)))
                  · skip
                    refine zg_iload X dX6_findReviewer_148 rfl ?_
                    exact zg_iret X hr dX6_findReviewer_150 (Nat.le_of_ble_eq_true rfl) (Nat.le_of_ble_eq_true rfl) (⟨by rw [revI, if_neg n1, er, ix_nI (by omega), if_neg n2, revL_some (by omega) ⟨c_139, c_145⟩ hq], rfl⟩)
          exact zg_lv (by exact ⟨rfl, rfl, rfl, rfl, trivial⟩) (LP113 (σ.1 0 + 1) 0 (by omega) (by omega) (fun a ha => absurd ha (Nat.not_lt_zero a)))
        · skip
          refine zg_iload X dX6_findReviewer_107 rfl ?_
          exact zg_iret X hr dX6_findReviewer_109 (Nat.le_of_ble_eq_true rfl) (Nat.le_of_ble_eq_true rfl) (⟨by rw [revI, if_neg n1, er, ix_nI (by omega), if_pos ⟨c_98, c_104⟩], rfl⟩)
    · skip
      refine zg_iload X dX6_findReviewer_60 rfl ?_
      refine zg_iload_n X dX6_findReviewer_62 rfl ?_
      refine zg_icmp_eq X dX6_findReviewer_63 (tgt := 69) (by decide) (fun c_63 => ?_) (fun c_63 => ?_)
      · skip
        have n1 : ¬ revOk (fpI σ (σ.1 0) (closeI σ g)) (σ.2.2 21 g) := (by first | exact (fun h => h.1 c_57) | exact (fun h => h.2 c_63))
        refine zg_aload_n X dX6_findReviewer_69 rfl ?_
        refine rg_R_people X f6 l10 dX6_findReviewer_70 ?_
        refine zg_aload_n X dX6_findReviewer_73 rfl ?_
        refine rg_R_rights X f6 l26 dX6_findReviewer_74 ?_
        refine rg_Rights_owners X f5 l385 dX6_findReviewer_77 ?_
        refine zg_aload_n X dX6_findReviewer_80 rfl ?_
        refine rg_R_grants X f6 l33 dX6_findReviewer_81 ?_
        refine rg_Grants_rights X f2 l372 dX6_findReviewer_84 ?_
        refine zg_iload_n X dX6_findReviewer_87 rfl ?_
        refine rlC_gRight X (by omega) dX6_findReviewer_88 ?_
        obtain ⟨r0, hr0, er⟩ := hI.gRt g hg
        refine zg_top er ?_
        refine rlC_rOwners X (by omega) dX6_findReviewer_89 ?_
        refine zg_callVi X (k_X4_firstPresent l D ad T _ hB0 _) zFr.rf gX6_findReviewer_X4_firstPresent rfl rfl rfl qv_X4_firstPresent rfl ⟨Nat.le_of_ble_eq_true rfl, Nat.le_of_ble_eq_true rfl⟩ (q0 := 1) (ci := 6) rfl rfl rfl (Nat.le_of_ble_eq_true rfl) ⟨Nat.le_of_ble_eq_true rfl, Nat.le_of_ble_eq_true rfl⟩ dX6_findReviewer_90 (fun r w1 hz9 => ?_)
        obtain ⟨rfl, rfl⟩ := hz9
        refine zg_istore X dX6_findReviewer_93 (by decide) ?_
        refine zg_iload X dX6_findReviewer_95 rfl ?_
        refine zg_iconst X (v := (-1)) dX6_findReviewer_97 (by decide) ?_
        refine zg_icmp_eq X dX6_findReviewer_98 (tgt := 110) (by decide) (fun c_98 => ?_) (fun c_98 => ?_)
        · skip
          have n2 : ¬ revOk (fpI σ (σ.1 0) (σ.2.2 7 r0)) (σ.2.2 21 g) := (by first | exact (fun h => h.1 c_98) | exact (fun h => h.2 c_104))
          refine zg_iconst X (v := 0) dX6_findReviewer_110 (by decide) ?_
          refine zg_istore X dX6_findReviewer_111 (by decide) ?_
          have LP113 : ∀ (fu : Nat) (i : Nat), σ.1 0 + 1 ≤ i + fu → i ≤ σ.1 0 → (∀ a, a < i → ¬ revOk (fpI σ (σ.1 0) (nI a)) (σ.2.2 21 g)) → zG p l e (headSpec wsX6_findReviewer ({ frames := 2, cells := 0, slots := 0, locals := 44 })).room s m [.ref (ad 0), .int (nI g)].toArray below meth c D 6 A 0 0 (MQ below (qI D (zT T) (fun v w => v = revI σ g ∧ w = wC ad T σ) A) [.ref (ad 0), .int (nI g)].toArray s 0 0 A) (wC ad T σ) 113 [(0, .ref (ad 0)), (1, .int (nI g)), (2, .int (σ.2.2 21 g)), (5, .int (nI i))] [] := by
            intro fu
            induction fu with
            | zero => intro i hfu hii _; exact absurd hfu (by omega)
            | succ fu ih113 =>
              intro i hfu hii hq
              refine zg_iload X dX6_findReviewer_113 rfl ?_
              refine zg_aload_n X dX6_findReviewer_115 rfl ?_
              refine rg_R_people X f6 l10 dX6_findReviewer_116 ?_
              refine rg_People_count X f4 l72 dX6_findReviewer_119 ?_
              refine zg_icmpn_ge X dX6_findReviewer_122 (tgt := 157) (by decide) (a := i) (b := σ.1 0) (by omega) (by omega) (fun c_122 => ?_) (fun c_122 => ?_)
              · skip
                refine zg_iconst X (v := (-1)) dX6_findReviewer_157 (by decide) ?_
                exact zg_iret X hr dX6_findReviewer_158 (Nat.le_of_ble_eq_true rfl) (Nat.le_of_ble_eq_true rfl) (⟨by rw [revI, if_neg n1, er, ix_nI (by omega), if_neg n2, revL_none (fun a ha => hq a (by omega))], rfl⟩)
              · skip
                refine zg_aload_n X dX6_findReviewer_125 rfl ?_
                refine rg_R_people X f6 l10 dX6_findReviewer_126 ?_
                refine zg_iload X dX6_findReviewer_129 rfl ?_
                refine zg_callVi X (k_X4_firstPresent l D ad T _ hB0 _) zFr.rf gX6_findReviewer_X4_firstPresent rfl rfl rfl qv_X4_firstPresent rfl ⟨Nat.le_of_ble_eq_true rfl, Nat.le_of_ble_eq_true rfl⟩ (q0 := 1) (ci := 6) rfl rfl rfl (Nat.le_of_ble_eq_true rfl) ⟨Nat.le_of_ble_eq_true rfl, Nat.le_of_ble_eq_true rfl⟩ dX6_findReviewer_131 (fun r w1 hz9 => ?_)
                obtain ⟨rfl, rfl⟩ := hz9
                refine zg_istore X dX6_findReviewer_134 (by decide) ?_
                refine zg_iload X dX6_findReviewer_136 rfl ?_
                refine zg_iconst X (v := (-1)) dX6_findReviewer_138 (by decide) ?_
                refine zg_icmp_eq X dX6_findReviewer_139 (tgt := 151) (by decide) (fun c_139 => ?_) (fun c_139 => ?_)
                · skip
                  refine zg_iinc1 X dX6_findReviewer_151 (by decide) rfl ?_
                  refine zg_goto X dX6_findReviewer_154 (tgt := 113) (by decide) ?_
                  exact zg_lv (by exact ⟨rfl, rfl, rfl, rfl, trivial⟩) (ih113 (i + 1) (by omega) (by omega) (lt_s hq (fun h => h.1 c_139)))
                · skip
                  refine zg_iload X dX6_findReviewer_142 rfl ?_
                  refine zg_iload_n X dX6_findReviewer_144 rfl ?_
                  refine zg_icmp_eq X dX6_findReviewer_145 (tgt := 151) (by decide) (fun c_145 => ?_) (fun c_145 => ?_)
                  · skip
                    refine zg_iinc1 X dX6_findReviewer_151 (by decide) rfl ?_
                    refine zg_goto X dX6_findReviewer_154 (tgt := 113) (by decide) ?_
                    exact zg_lv (by exact ⟨rfl, rfl, rfl, rfl, trivial⟩) (ih113 (i + 1) (by omega) (by omega) (lt_s hq (fun h => h.2 c_145)))
                  · skip
                    refine zg_iload X dX6_findReviewer_148 rfl ?_
                    exact zg_iret X hr dX6_findReviewer_150 (Nat.le_of_ble_eq_true rfl) (Nat.le_of_ble_eq_true rfl) (⟨by rw [revI, if_neg n1, er, ix_nI (by omega), if_neg n2, revL_some (by omega) ⟨c_139, c_145⟩ hq], rfl⟩)
          exact zg_lv (by exact ⟨rfl, rfl, rfl, rfl, trivial⟩) (LP113 (σ.1 0 + 1) 0 (by omega) (by omega) (fun a ha => absurd ha (Nat.not_lt_zero a)))
        · skip
          refine zg_iload X dX6_findReviewer_101 rfl ?_
          refine zg_iload_n X dX6_findReviewer_103 rfl ?_
          refine zg_icmp_eq X dX6_findReviewer_104 (tgt := 110) (by decide) (fun c_104 => ?_) (fun c_104 => ?_)
          · skip
            have n2 : ¬ revOk (fpI σ (σ.1 0) (σ.2.2 7 r0)) (σ.2.2 21 g) := (by first | exact (fun h => h.1 c_98) | exact (fun h => h.2 c_104))
            refine zg_iconst X (v := 0) dX6_findReviewer_110 (by decide) ?_
            refine zg_istore X dX6_findReviewer_111 (by decide) ?_
            have LP113 : ∀ (fu : Nat) (i : Nat), σ.1 0 + 1 ≤ i + fu → i ≤ σ.1 0 → (∀ a, a < i → ¬ revOk (fpI σ (σ.1 0) (nI a)) (σ.2.2 21 g)) → zG p l e (headSpec wsX6_findReviewer ({ frames := 2, cells := 0, slots := 0, locals := 44 })).room s m [.ref (ad 0), .int (nI g)].toArray below meth c D 6 A 0 0 (MQ below (qI D (zT T) (fun v w => v = revI σ g ∧ w = wC ad T σ) A) [.ref (ad 0), .int (nI g)].toArray s 0 0 A) (wC ad T σ) 113 [(0, .ref (ad 0)), (1, .int (nI g)), (2, .int (σ.2.2 21 g)), (5, .int (nI i))] [] := by
              intro fu
              induction fu with
              | zero => intro i hfu hii _; exact absurd hfu (by omega)
              | succ fu ih113 =>
                intro i hfu hii hq
                refine zg_iload X dX6_findReviewer_113 rfl ?_
                refine zg_aload_n X dX6_findReviewer_115 rfl ?_
                refine rg_R_people X f6 l10 dX6_findReviewer_116 ?_
                refine rg_People_count X f4 l72 dX6_findReviewer_119 ?_
                refine zg_icmpn_ge X dX6_findReviewer_122 (tgt := 157) (by decide) (a := i) (b := σ.1 0) (by omega) (by omega) (fun c_122 => ?_) (fun c_122 => ?_)
                · skip
                  refine zg_iconst X (v := (-1)) dX6_findReviewer_157 (by decide) ?_
                  exact zg_iret X hr dX6_findReviewer_158 (Nat.le_of_ble_eq_true rfl) (Nat.le_of_ble_eq_true rfl) (⟨by rw [revI, if_neg n1, er, ix_nI (by omega), if_neg n2, revL_none (fun a ha => hq a (by omega))], rfl⟩)
                · skip
                  refine zg_aload_n X dX6_findReviewer_125 rfl ?_
                  refine rg_R_people X f6 l10 dX6_findReviewer_126 ?_
                  refine zg_iload X dX6_findReviewer_129 rfl ?_
                  refine zg_callVi X (k_X4_firstPresent l D ad T _ hB0 _) zFr.rf gX6_findReviewer_X4_firstPresent rfl rfl rfl qv_X4_firstPresent rfl ⟨Nat.le_of_ble_eq_true rfl, Nat.le_of_ble_eq_true rfl⟩ (q0 := 1) (ci := 6) rfl rfl rfl (Nat.le_of_ble_eq_true rfl) ⟨Nat.le_of_ble_eq_true rfl, Nat.le_of_ble_eq_true rfl⟩ dX6_findReviewer_131 (fun r w1 hz9 => ?_)
                  obtain ⟨rfl, rfl⟩ := hz9
                  refine zg_istore X dX6_findReviewer_134 (by decide) ?_
                  refine zg_iload X dX6_findReviewer_136 rfl ?_
                  refine zg_iconst X (v := (-1)) dX6_findReviewer_138 (by decide) ?_
                  refine zg_icmp_eq X dX6_findReviewer_139 (tgt := 151) (by decide) (fun c_139 => ?_) (fun c_139 => ?_)
                  · skip
                    refine zg_iinc1 X dX6_findReviewer_151 (by decide) rfl ?_
                    refine zg_goto X dX6_findReviewer_154 (tgt := 113) (by decide) ?_
                    exact zg_lv (by exact ⟨rfl, rfl, rfl, rfl, trivial⟩) (ih113 (i + 1) (by omega) (by omega) (lt_s hq (fun h => h.1 c_139)))
                  · skip
                    refine zg_iload X dX6_findReviewer_142 rfl ?_
                    refine zg_iload_n X dX6_findReviewer_144 rfl ?_
                    refine zg_icmp_eq X dX6_findReviewer_145 (tgt := 151) (by decide) (fun c_145 => ?_) (fun c_145 => ?_)
                    · skip
                      refine zg_iinc1 X dX6_findReviewer_151 (by decide) rfl ?_
                      refine zg_goto X dX6_findReviewer_154 (tgt := 113) (by decide) ?_
                      exact zg_lv (by exact ⟨rfl, rfl, rfl, rfl, trivial⟩) (ih113 (i + 1) (by omega) (by omega) (lt_s hq (fun h => h.2 c_145)))
                    · skip
                      refine zg_iload X dX6_findReviewer_148 rfl ?_
                      exact zg_iret X hr dX6_findReviewer_150 (Nat.le_of_ble_eq_true rfl) (Nat.le_of_ble_eq_true rfl) (⟨by rw [revI, if_neg n1, er, ix_nI (by omega), if_neg n2, revL_some (by omega) ⟨c_139, c_145⟩ hq], rfl⟩)
            exact zg_lv (by exact ⟨rfl, rfl, rfl, rfl, trivial⟩) (LP113 (σ.1 0 + 1) 0 (by omega) (by omega) (fun a ha => absurd ha (Nat.not_lt_zero a)))
          · skip
            refine zg_iload X dX6_findReviewer_107 rfl ?_
            exact zg_iret X hr dX6_findReviewer_109 (Nat.le_of_ble_eq_true rfl) (Nat.le_of_ble_eq_true rfl) (⟨by rw [revI, if_neg n1, er, ix_nI (by omega), if_pos ⟨c_98, c_104⟩], rfl⟩)
      · skip
        refine zg_iload X dX6_findReviewer_66 rfl ?_
        exact zg_iret X hr dX6_findReviewer_68 (Nat.le_of_ble_eq_true rfl) (Nat.le_of_ble_eq_true rfl) (⟨by rw [revI, if_pos ⟨c_57, c_63⟩], rfl⟩)
  · skip
    refine zg_aload_n X dX6_findReviewer_15 rfl ?_
    refine rg_R_groups X f6 l19 dX6_findReviewer_16 ?_
    refine zg_aload_n X dX6_findReviewer_19 rfl ?_
    refine rg_R_grants X f6 l33 dX6_findReviewer_20 ?_
    refine rg_Grants_groups X f2 l355 dX6_findReviewer_23 ?_
    refine zg_iload_n X dX6_findReviewer_26 rfl ?_
    refine rlC_gGroups X (by omega) dX6_findReviewer_27 ?_
    refine zg_callVi X (k_X3_ownerOf l D ad T _ hB0 _) zFr.rf gX6_findReviewer_X3_ownerOf rfl rfl rfl qv_X3_ownerOf rfl ⟨Nat.le_of_ble_eq_true rfl, Nat.le_of_ble_eq_true rfl⟩ (q0 := 2) (ci := 5) rfl rfl rfl (Nat.le_of_ble_eq_true rfl) ⟨Nat.le_of_ble_eq_true rfl, Nat.le_of_ble_eq_true rfl⟩ dX6_findReviewer_28 (fun r w1 hz9 => ?_)
    obtain ⟨rfl, rfl⟩ := hz9
    refine zg_goto X dX6_findReviewer_31 (tgt := 43) (by decide) ?_
    refine zg_top (v' := closeI σ g) (by first | exact (by rw [closeI, if_neg c_12, ej, ix_nI (by omega)]) | exact (by rw [closeI, if_pos c_12])) ?_
    refine zg_istore_n X dX6_findReviewer_43 (by decide) ?_
    refine zg_aload_n X dX6_findReviewer_44 rfl ?_
    refine rg_R_people X f6 l10 dX6_findReviewer_45 ?_
    refine zg_iload_n X dX6_findReviewer_48 rfl ?_
    refine zg_callVi X (k_X4_firstPresent l D ad T _ hB0 _) zFr.rf gX6_findReviewer_X4_firstPresent rfl rfl rfl qv_X4_firstPresent rfl ⟨Nat.le_of_ble_eq_true rfl, Nat.le_of_ble_eq_true rfl⟩ (q0 := 1) (ci := 6) rfl rfl rfl (Nat.le_of_ble_eq_true rfl) ⟨Nat.le_of_ble_eq_true rfl, Nat.le_of_ble_eq_true rfl⟩ dX6_findReviewer_49 (fun r w1 hz9 => ?_)
    obtain ⟨rfl, rfl⟩ := hz9
    refine zg_istore X dX6_findReviewer_52 (by decide) ?_
    refine zg_iload X dX6_findReviewer_54 rfl ?_
    refine zg_iconst X (v := (-1)) dX6_findReviewer_56 (by decide) ?_
    refine zg_icmp_eq X dX6_findReviewer_57 (tgt := 69) (by decide) (fun c_57 => ?_) (fun c_57 => ?_)
    · skip
      have n1 : ¬ revOk (fpI σ (σ.1 0) (closeI σ g)) (σ.2.2 21 g) := (by first | exact (fun h => h.1 c_57) | exact (fun h => h.2 c_63))
      refine zg_aload_n X dX6_findReviewer_69 rfl ?_
      refine rg_R_people X f6 l10 dX6_findReviewer_70 ?_
      refine zg_aload_n X dX6_findReviewer_73 rfl ?_
      refine rg_R_rights X f6 l26 dX6_findReviewer_74 ?_
      refine rg_Rights_owners X f5 l385 dX6_findReviewer_77 ?_
      refine zg_aload_n X dX6_findReviewer_80 rfl ?_
      refine rg_R_grants X f6 l33 dX6_findReviewer_81 ?_
      refine rg_Grants_rights X f2 l372 dX6_findReviewer_84 ?_
      refine zg_iload_n X dX6_findReviewer_87 rfl ?_
      refine rlC_gRight X (by omega) dX6_findReviewer_88 ?_
      obtain ⟨r0, hr0, er⟩ := hI.gRt g hg
      refine zg_top er ?_
      refine rlC_rOwners X (by omega) dX6_findReviewer_89 ?_
      refine zg_callVi X (k_X4_firstPresent l D ad T _ hB0 _) zFr.rf gX6_findReviewer_X4_firstPresent rfl rfl rfl qv_X4_firstPresent rfl ⟨Nat.le_of_ble_eq_true rfl, Nat.le_of_ble_eq_true rfl⟩ (q0 := 1) (ci := 6) rfl rfl rfl (Nat.le_of_ble_eq_true rfl) ⟨Nat.le_of_ble_eq_true rfl, Nat.le_of_ble_eq_true rfl⟩ dX6_findReviewer_90 (fun r w1 hz9 => ?_)
      obtain ⟨rfl, rfl⟩ := hz9
      refine zg_istore X dX6_findReviewer_93 (by decide) ?_
      refine zg_iload X dX6_findReviewer_95 rfl ?_
      refine zg_iconst X (v := (-1)) dX6_findReviewer_97 (by decide) ?_
      refine zg_icmp_eq X dX6_findReviewer_98 (tgt := 110) (by decide) (fun c_98 => ?_) (fun c_98 => ?_)
      · skip
        have n2 : ¬ revOk (fpI σ (σ.1 0) (σ.2.2 7 r0)) (σ.2.2 21 g) := (by first | exact (fun h => h.1 c_98) | exact (fun h => h.2 c_104))
        refine zg_iconst X (v := 0) dX6_findReviewer_110 (by decide) ?_
        refine zg_istore X dX6_findReviewer_111 (by decide) ?_
        have LP113 : ∀ (fu : Nat) (i : Nat), σ.1 0 + 1 ≤ i + fu → i ≤ σ.1 0 → (∀ a, a < i → ¬ revOk (fpI σ (σ.1 0) (nI a)) (σ.2.2 21 g)) → zG p l e (headSpec wsX6_findReviewer ({ frames := 2, cells := 0, slots := 0, locals := 44 })).room s m [.ref (ad 0), .int (nI g)].toArray below meth c D 6 A 0 0 (MQ below (qI D (zT T) (fun v w => v = revI σ g ∧ w = wC ad T σ) A) [.ref (ad 0), .int (nI g)].toArray s 0 0 A) (wC ad T σ) 113 [(0, .ref (ad 0)), (1, .int (nI g)), (2, .int (σ.2.2 21 g)), (5, .int (nI i))] [] := by
          intro fu
          induction fu with
          | zero => intro i hfu hii _; exact absurd hfu (by omega)
          | succ fu ih113 =>
            intro i hfu hii hq
            refine zg_iload X dX6_findReviewer_113 rfl ?_
            refine zg_aload_n X dX6_findReviewer_115 rfl ?_
            refine rg_R_people X f6 l10 dX6_findReviewer_116 ?_
            refine rg_People_count X f4 l72 dX6_findReviewer_119 ?_
            refine zg_icmpn_ge X dX6_findReviewer_122 (tgt := 157) (by decide) (a := i) (b := σ.1 0) (by omega) (by omega) (fun c_122 => ?_) (fun c_122 => ?_)
            · skip
              refine zg_iconst X (v := (-1)) dX6_findReviewer_157 (by decide) ?_
              exact zg_iret X hr dX6_findReviewer_158 (Nat.le_of_ble_eq_true rfl) (Nat.le_of_ble_eq_true rfl) (⟨by rw [revI, if_neg n1, er, ix_nI (by omega), if_neg n2, revL_none (fun a ha => hq a (by omega))], rfl⟩)
            · skip
              refine zg_aload_n X dX6_findReviewer_125 rfl ?_
              refine rg_R_people X f6 l10 dX6_findReviewer_126 ?_
              refine zg_iload X dX6_findReviewer_129 rfl ?_
              refine zg_callVi X (k_X4_firstPresent l D ad T _ hB0 _) zFr.rf gX6_findReviewer_X4_firstPresent rfl rfl rfl qv_X4_firstPresent rfl ⟨Nat.le_of_ble_eq_true rfl, Nat.le_of_ble_eq_true rfl⟩ (q0 := 1) (ci := 6) rfl rfl rfl (Nat.le_of_ble_eq_true rfl) ⟨Nat.le_of_ble_eq_true rfl, Nat.le_of_ble_eq_true rfl⟩ dX6_findReviewer_131 (fun r w1 hz9 => ?_)
              obtain ⟨rfl, rfl⟩ := hz9
              refine zg_istore X dX6_findReviewer_134 (by decide) ?_
              refine zg_iload X dX6_findReviewer_136 rfl ?_
              refine zg_iconst X (v := (-1)) dX6_findReviewer_138 (by decide) ?_
              refine zg_icmp_eq X dX6_findReviewer_139 (tgt := 151) (by decide) (fun c_139 => ?_) (fun c_139 => ?_)
              · skip
                refine zg_iinc1 X dX6_findReviewer_151 (by decide) rfl ?_
                refine zg_goto X dX6_findReviewer_154 (tgt := 113) (by decide) ?_
                exact zg_lv (by exact ⟨rfl, rfl, rfl, rfl, trivial⟩) (ih113 (i + 1) (by omega) (by omega) (lt_s hq (fun h => h.1 c_139)))
              · skip
                refine zg_iload X dX6_findReviewer_142 rfl ?_
                refine zg_iload_n X dX6_findReviewer_144 rfl ?_
                refine zg_icmp_eq X dX6_findReviewer_145 (tgt := 151) (by decide) (fun c_145 => ?_) (fun c_145 => ?_)
                · skip
                  refine zg_iinc1 X dX6_findReviewer_151 (by decide) rfl ?_
                  refine zg_goto X dX6_findReviewer_154 (tgt := 113) (by decide) ?_
                  exact zg_lv (by exact ⟨rfl, rfl, rfl, rfl, trivial⟩) (ih113 (i + 1) (by omega) (by omega) (lt_s hq (fun h => h.2 c_145)))
                · skip
                  refine zg_iload X dX6_findReviewer_148 rfl ?_
                  exact zg_iret X hr dX6_findReviewer_150 (Nat.le_of_ble_eq_true rfl) (Nat.le_of_ble_eq_true rfl) (⟨by rw [revI, if_neg n1, er, ix_nI (by omega), if_neg n2, revL_some (by omega) ⟨c_139, c_145⟩ hq], rfl⟩)
        exact zg_lv (by exact ⟨rfl, rfl, rfl, rfl, trivial⟩) (LP113 (σ.1 0 + 1) 0 (by omega) (by omega) (fun a ha => absurd ha (Nat.not_lt_zero a)))
      · skip
        refine zg_iload X dX6_findReviewer_101 rfl ?_
        refine zg_iload_n X dX6_findReviewer_103 rfl ?_
        refine zg_icmp_eq X dX6_findReviewer_104 (tgt := 110) (by decide) (fun c_104 => ?_) (fun c_104 => ?_)
        · skip
          have n2 : ¬ revOk (fpI σ (σ.1 0) (σ.2.2 7 r0)) (σ.2.2 21 g) := (by first | exact (fun h => h.1 c_98) | exact (fun h => h.2 c_104))
          refine zg_iconst X (v := 0) dX6_findReviewer_110 (by decide) ?_
          refine zg_istore X dX6_findReviewer_111 (by decide) ?_
          have LP113 : ∀ (fu : Nat) (i : Nat), σ.1 0 + 1 ≤ i + fu → i ≤ σ.1 0 → (∀ a, a < i → ¬ revOk (fpI σ (σ.1 0) (nI a)) (σ.2.2 21 g)) → zG p l e (headSpec wsX6_findReviewer ({ frames := 2, cells := 0, slots := 0, locals := 44 })).room s m [.ref (ad 0), .int (nI g)].toArray below meth c D 6 A 0 0 (MQ below (qI D (zT T) (fun v w => v = revI σ g ∧ w = wC ad T σ) A) [.ref (ad 0), .int (nI g)].toArray s 0 0 A) (wC ad T σ) 113 [(0, .ref (ad 0)), (1, .int (nI g)), (2, .int (σ.2.2 21 g)), (5, .int (nI i))] [] := by
            intro fu
            induction fu with
            | zero => intro i hfu hii _; exact absurd hfu (by omega)
            | succ fu ih113 =>
              intro i hfu hii hq
              refine zg_iload X dX6_findReviewer_113 rfl ?_
              refine zg_aload_n X dX6_findReviewer_115 rfl ?_
              refine rg_R_people X f6 l10 dX6_findReviewer_116 ?_
              refine rg_People_count X f4 l72 dX6_findReviewer_119 ?_
              refine zg_icmpn_ge X dX6_findReviewer_122 (tgt := 157) (by decide) (a := i) (b := σ.1 0) (by omega) (by omega) (fun c_122 => ?_) (fun c_122 => ?_)
              · skip
                refine zg_iconst X (v := (-1)) dX6_findReviewer_157 (by decide) ?_
                exact zg_iret X hr dX6_findReviewer_158 (Nat.le_of_ble_eq_true rfl) (Nat.le_of_ble_eq_true rfl) (⟨by rw [revI, if_neg n1, er, ix_nI (by omega), if_neg n2, revL_none (fun a ha => hq a (by omega))], rfl⟩)
              · skip
                refine zg_aload_n X dX6_findReviewer_125 rfl ?_
                refine rg_R_people X f6 l10 dX6_findReviewer_126 ?_
                refine zg_iload X dX6_findReviewer_129 rfl ?_
                refine zg_callVi X (k_X4_firstPresent l D ad T _ hB0 _) zFr.rf gX6_findReviewer_X4_firstPresent rfl rfl rfl qv_X4_firstPresent rfl ⟨Nat.le_of_ble_eq_true rfl, Nat.le_of_ble_eq_true rfl⟩ (q0 := 1) (ci := 6) rfl rfl rfl (Nat.le_of_ble_eq_true rfl) ⟨Nat.le_of_ble_eq_true rfl, Nat.le_of_ble_eq_true rfl⟩ dX6_findReviewer_131 (fun r w1 hz9 => ?_)
                obtain ⟨rfl, rfl⟩ := hz9
                refine zg_istore X dX6_findReviewer_134 (by decide) ?_
                refine zg_iload X dX6_findReviewer_136 rfl ?_
                refine zg_iconst X (v := (-1)) dX6_findReviewer_138 (by decide) ?_
                refine zg_icmp_eq X dX6_findReviewer_139 (tgt := 151) (by decide) (fun c_139 => ?_) (fun c_139 => ?_)
                · skip
                  refine zg_iinc1 X dX6_findReviewer_151 (by decide) rfl ?_
                  refine zg_goto X dX6_findReviewer_154 (tgt := 113) (by decide) ?_
                  exact zg_lv (by exact ⟨rfl, rfl, rfl, rfl, trivial⟩) (ih113 (i + 1) (by omega) (by omega) (lt_s hq (fun h => h.1 c_139)))
                · skip
                  refine zg_iload X dX6_findReviewer_142 rfl ?_
                  refine zg_iload_n X dX6_findReviewer_144 rfl ?_
                  refine zg_icmp_eq X dX6_findReviewer_145 (tgt := 151) (by decide) (fun c_145 => ?_) (fun c_145 => ?_)
                  · skip
                    refine zg_iinc1 X dX6_findReviewer_151 (by decide) rfl ?_
                    refine zg_goto X dX6_findReviewer_154 (tgt := 113) (by decide) ?_
                    exact zg_lv (by exact ⟨rfl, rfl, rfl, rfl, trivial⟩) (ih113 (i + 1) (by omega) (by omega) (lt_s hq (fun h => h.2 c_145)))
                  · skip
                    refine zg_iload X dX6_findReviewer_148 rfl ?_
                    exact zg_iret X hr dX6_findReviewer_150 (Nat.le_of_ble_eq_true rfl) (Nat.le_of_ble_eq_true rfl) (⟨by rw [revI, if_neg n1, er, ix_nI (by omega), if_neg n2, revL_some (by omega) ⟨c_139, c_145⟩ hq], rfl⟩)
          exact zg_lv (by exact ⟨rfl, rfl, rfl, rfl, trivial⟩) (LP113 (σ.1 0 + 1) 0 (by omega) (by omega) (fun a ha => absurd ha (Nat.not_lt_zero a)))
        · skip
          refine zg_iload X dX6_findReviewer_107 rfl ?_
          exact zg_iret X hr dX6_findReviewer_109 (Nat.le_of_ble_eq_true rfl) (Nat.le_of_ble_eq_true rfl) (⟨by rw [revI, if_neg n1, er, ix_nI (by omega), if_pos ⟨c_98, c_104⟩], rfl⟩)
    · skip
      refine zg_iload X dX6_findReviewer_60 rfl ?_
      refine zg_iload_n X dX6_findReviewer_62 rfl ?_
      refine zg_icmp_eq X dX6_findReviewer_63 (tgt := 69) (by decide) (fun c_63 => ?_) (fun c_63 => ?_)
      · skip
        have n1 : ¬ revOk (fpI σ (σ.1 0) (closeI σ g)) (σ.2.2 21 g) := (by first | exact (fun h => h.1 c_57) | exact (fun h => h.2 c_63))
        refine zg_aload_n X dX6_findReviewer_69 rfl ?_
        refine rg_R_people X f6 l10 dX6_findReviewer_70 ?_
        refine zg_aload_n X dX6_findReviewer_73 rfl ?_
        refine rg_R_rights X f6 l26 dX6_findReviewer_74 ?_
        refine rg_Rights_owners X f5 l385 dX6_findReviewer_77 ?_
        refine zg_aload_n X dX6_findReviewer_80 rfl ?_
        refine rg_R_grants X f6 l33 dX6_findReviewer_81 ?_
        refine rg_Grants_rights X f2 l372 dX6_findReviewer_84 ?_
        refine zg_iload_n X dX6_findReviewer_87 rfl ?_
        refine rlC_gRight X (by omega) dX6_findReviewer_88 ?_
        obtain ⟨r0, hr0, er⟩ := hI.gRt g hg
        refine zg_top er ?_
        refine rlC_rOwners X (by omega) dX6_findReviewer_89 ?_
        refine zg_callVi X (k_X4_firstPresent l D ad T _ hB0 _) zFr.rf gX6_findReviewer_X4_firstPresent rfl rfl rfl qv_X4_firstPresent rfl ⟨Nat.le_of_ble_eq_true rfl, Nat.le_of_ble_eq_true rfl⟩ (q0 := 1) (ci := 6) rfl rfl rfl (Nat.le_of_ble_eq_true rfl) ⟨Nat.le_of_ble_eq_true rfl, Nat.le_of_ble_eq_true rfl⟩ dX6_findReviewer_90 (fun r w1 hz9 => ?_)
        obtain ⟨rfl, rfl⟩ := hz9
        refine zg_istore X dX6_findReviewer_93 (by decide) ?_
        refine zg_iload X dX6_findReviewer_95 rfl ?_
        refine zg_iconst X (v := (-1)) dX6_findReviewer_97 (by decide) ?_
        refine zg_icmp_eq X dX6_findReviewer_98 (tgt := 110) (by decide) (fun c_98 => ?_) (fun c_98 => ?_)
        · skip
          have n2 : ¬ revOk (fpI σ (σ.1 0) (σ.2.2 7 r0)) (σ.2.2 21 g) := (by first | exact (fun h => h.1 c_98) | exact (fun h => h.2 c_104))
          refine zg_iconst X (v := 0) dX6_findReviewer_110 (by decide) ?_
          refine zg_istore X dX6_findReviewer_111 (by decide) ?_
          have LP113 : ∀ (fu : Nat) (i : Nat), σ.1 0 + 1 ≤ i + fu → i ≤ σ.1 0 → (∀ a, a < i → ¬ revOk (fpI σ (σ.1 0) (nI a)) (σ.2.2 21 g)) → zG p l e (headSpec wsX6_findReviewer ({ frames := 2, cells := 0, slots := 0, locals := 44 })).room s m [.ref (ad 0), .int (nI g)].toArray below meth c D 6 A 0 0 (MQ below (qI D (zT T) (fun v w => v = revI σ g ∧ w = wC ad T σ) A) [.ref (ad 0), .int (nI g)].toArray s 0 0 A) (wC ad T σ) 113 [(0, .ref (ad 0)), (1, .int (nI g)), (2, .int (σ.2.2 21 g)), (5, .int (nI i))] [] := by
            intro fu
            induction fu with
            | zero => intro i hfu hii _; exact absurd hfu (by omega)
            | succ fu ih113 =>
              intro i hfu hii hq
              refine zg_iload X dX6_findReviewer_113 rfl ?_
              refine zg_aload_n X dX6_findReviewer_115 rfl ?_
              refine rg_R_people X f6 l10 dX6_findReviewer_116 ?_
              refine rg_People_count X f4 l72 dX6_findReviewer_119 ?_
              refine zg_icmpn_ge X dX6_findReviewer_122 (tgt := 157) (by decide) (a := i) (b := σ.1 0) (by omega) (by omega) (fun c_122 => ?_) (fun c_122 => ?_)
              · skip
                refine zg_iconst X (v := (-1)) dX6_findReviewer_157 (by decide) ?_
                exact zg_iret X hr dX6_findReviewer_158 (Nat.le_of_ble_eq_true rfl) (Nat.le_of_ble_eq_true rfl) (⟨by rw [revI, if_neg n1, er, ix_nI (by omega), if_neg n2, revL_none (fun a ha => hq a (by omega))], rfl⟩)
              · skip
                refine zg_aload_n X dX6_findReviewer_125 rfl ?_
                refine rg_R_people X f6 l10 dX6_findReviewer_126 ?_
                refine zg_iload X dX6_findReviewer_129 rfl ?_
                refine zg_callVi X (k_X4_firstPresent l D ad T _ hB0 _) zFr.rf gX6_findReviewer_X4_firstPresent rfl rfl rfl qv_X4_firstPresent rfl ⟨Nat.le_of_ble_eq_true rfl, Nat.le_of_ble_eq_true rfl⟩ (q0 := 1) (ci := 6) rfl rfl rfl (Nat.le_of_ble_eq_true rfl) ⟨Nat.le_of_ble_eq_true rfl, Nat.le_of_ble_eq_true rfl⟩ dX6_findReviewer_131 (fun r w1 hz9 => ?_)
                obtain ⟨rfl, rfl⟩ := hz9
                refine zg_istore X dX6_findReviewer_134 (by decide) ?_
                refine zg_iload X dX6_findReviewer_136 rfl ?_
                refine zg_iconst X (v := (-1)) dX6_findReviewer_138 (by decide) ?_
                refine zg_icmp_eq X dX6_findReviewer_139 (tgt := 151) (by decide) (fun c_139 => ?_) (fun c_139 => ?_)
                · skip
                  refine zg_iinc1 X dX6_findReviewer_151 (by decide) rfl ?_
                  refine zg_goto X dX6_findReviewer_154 (tgt := 113) (by decide) ?_
                  exact zg_lv (by exact ⟨rfl, rfl, rfl, rfl, trivial⟩) (ih113 (i + 1) (by omega) (by omega) (lt_s hq (fun h => h.1 c_139)))
                · skip
                  refine zg_iload X dX6_findReviewer_142 rfl ?_
                  refine zg_iload_n X dX6_findReviewer_144 rfl ?_
                  refine zg_icmp_eq X dX6_findReviewer_145 (tgt := 151) (by decide) (fun c_145 => ?_) (fun c_145 => ?_)
                  · skip
                    refine zg_iinc1 X dX6_findReviewer_151 (by decide) rfl ?_
                    refine zg_goto X dX6_findReviewer_154 (tgt := 113) (by decide) ?_
                    exact zg_lv (by exact ⟨rfl, rfl, rfl, rfl, trivial⟩) (ih113 (i + 1) (by omega) (by omega) (lt_s hq (fun h => h.2 c_145)))
                  · skip
                    refine zg_iload X dX6_findReviewer_148 rfl ?_
                    exact zg_iret X hr dX6_findReviewer_150 (Nat.le_of_ble_eq_true rfl) (Nat.le_of_ble_eq_true rfl) (⟨by rw [revI, if_neg n1, er, ix_nI (by omega), if_neg n2, revL_some (by omega) ⟨c_139, c_145⟩ hq], rfl⟩)
          exact zg_lv (by exact ⟨rfl, rfl, rfl, rfl, trivial⟩) (LP113 (σ.1 0 + 1) 0 (by omega) (by omega) (fun a ha => absurd ha (Nat.not_lt_zero a)))
        · skip
          refine zg_iload X dX6_findReviewer_101 rfl ?_
          refine zg_iload_n X dX6_findReviewer_103 rfl ?_
          refine zg_icmp_eq X dX6_findReviewer_104 (tgt := 110) (by decide) (fun c_104 => ?_) (fun c_104 => ?_)
          · skip
            have n2 : ¬ revOk (fpI σ (σ.1 0) (σ.2.2 7 r0)) (σ.2.2 21 g) := (by first | exact (fun h => h.1 c_98) | exact (fun h => h.2 c_104))
            refine zg_iconst X (v := 0) dX6_findReviewer_110 (by decide) ?_
            refine zg_istore X dX6_findReviewer_111 (by decide) ?_
            have LP113 : ∀ (fu : Nat) (i : Nat), σ.1 0 + 1 ≤ i + fu → i ≤ σ.1 0 → (∀ a, a < i → ¬ revOk (fpI σ (σ.1 0) (nI a)) (σ.2.2 21 g)) → zG p l e (headSpec wsX6_findReviewer ({ frames := 2, cells := 0, slots := 0, locals := 44 })).room s m [.ref (ad 0), .int (nI g)].toArray below meth c D 6 A 0 0 (MQ below (qI D (zT T) (fun v w => v = revI σ g ∧ w = wC ad T σ) A) [.ref (ad 0), .int (nI g)].toArray s 0 0 A) (wC ad T σ) 113 [(0, .ref (ad 0)), (1, .int (nI g)), (2, .int (σ.2.2 21 g)), (5, .int (nI i))] [] := by
              intro fu
              induction fu with
              | zero => intro i hfu hii _; exact absurd hfu (by omega)
              | succ fu ih113 =>
                intro i hfu hii hq
                refine zg_iload X dX6_findReviewer_113 rfl ?_
                refine zg_aload_n X dX6_findReviewer_115 rfl ?_
                refine rg_R_people X f6 l10 dX6_findReviewer_116 ?_
                refine rg_People_count X f4 l72 dX6_findReviewer_119 ?_
                refine zg_icmpn_ge X dX6_findReviewer_122 (tgt := 157) (by decide) (a := i) (b := σ.1 0) (by omega) (by omega) (fun c_122 => ?_) (fun c_122 => ?_)
                · skip
                  refine zg_iconst X (v := (-1)) dX6_findReviewer_157 (by decide) ?_
                  exact zg_iret X hr dX6_findReviewer_158 (Nat.le_of_ble_eq_true rfl) (Nat.le_of_ble_eq_true rfl) (⟨by rw [revI, if_neg n1, er, ix_nI (by omega), if_neg n2, revL_none (fun a ha => hq a (by omega))], rfl⟩)
                · skip
                  refine zg_aload_n X dX6_findReviewer_125 rfl ?_
                  refine rg_R_people X f6 l10 dX6_findReviewer_126 ?_
                  refine zg_iload X dX6_findReviewer_129 rfl ?_
                  refine zg_callVi X (k_X4_firstPresent l D ad T _ hB0 _) zFr.rf gX6_findReviewer_X4_firstPresent rfl rfl rfl qv_X4_firstPresent rfl ⟨Nat.le_of_ble_eq_true rfl, Nat.le_of_ble_eq_true rfl⟩ (q0 := 1) (ci := 6) rfl rfl rfl (Nat.le_of_ble_eq_true rfl) ⟨Nat.le_of_ble_eq_true rfl, Nat.le_of_ble_eq_true rfl⟩ dX6_findReviewer_131 (fun r w1 hz9 => ?_)
                  obtain ⟨rfl, rfl⟩ := hz9
                  refine zg_istore X dX6_findReviewer_134 (by decide) ?_
                  refine zg_iload X dX6_findReviewer_136 rfl ?_
                  refine zg_iconst X (v := (-1)) dX6_findReviewer_138 (by decide) ?_
                  refine zg_icmp_eq X dX6_findReviewer_139 (tgt := 151) (by decide) (fun c_139 => ?_) (fun c_139 => ?_)
                  · skip
                    refine zg_iinc1 X dX6_findReviewer_151 (by decide) rfl ?_
                    refine zg_goto X dX6_findReviewer_154 (tgt := 113) (by decide) ?_
                    exact zg_lv (by exact ⟨rfl, rfl, rfl, rfl, trivial⟩) (ih113 (i + 1) (by omega) (by omega) (lt_s hq (fun h => h.1 c_139)))
                  · skip
                    refine zg_iload X dX6_findReviewer_142 rfl ?_
                    refine zg_iload_n X dX6_findReviewer_144 rfl ?_
                    refine zg_icmp_eq X dX6_findReviewer_145 (tgt := 151) (by decide) (fun c_145 => ?_) (fun c_145 => ?_)
                    · skip
                      refine zg_iinc1 X dX6_findReviewer_151 (by decide) rfl ?_
                      refine zg_goto X dX6_findReviewer_154 (tgt := 113) (by decide) ?_
                      exact zg_lv (by exact ⟨rfl, rfl, rfl, rfl, trivial⟩) (ih113 (i + 1) (by omega) (by omega) (lt_s hq (fun h => h.2 c_145)))
                    · skip
                      refine zg_iload X dX6_findReviewer_148 rfl ?_
                      exact zg_iret X hr dX6_findReviewer_150 (Nat.le_of_ble_eq_true rfl) (Nat.le_of_ble_eq_true rfl) (⟨by rw [revI, if_neg n1, er, ix_nI (by omega), if_neg n2, revL_some (by omega) ⟨c_139, c_145⟩ hq], rfl⟩)
            exact zg_lv (by exact ⟨rfl, rfl, rfl, rfl, trivial⟩) (LP113 (σ.1 0 + 1) 0 (by omega) (by omega) (fun a ha => absurd ha (Nat.not_lt_zero a)))
          · skip
            refine zg_iload X dX6_findReviewer_107 rfl ?_
            exact zg_iret X hr dX6_findReviewer_109 (Nat.le_of_ble_eq_true rfl) (Nat.le_of_ble_eq_true rfl) (⟨by rw [revI, if_neg n1, er, ix_nI (by omega), if_pos ⟨c_98, c_104⟩], rfl⟩)
      · skip
        refine zg_iload X dX6_findReviewer_66 rfl ?_
        exact zg_iret X hr dX6_findReviewer_68 (Nat.le_of_ble_eq_true rfl) (Nat.le_of_ble_eq_true rfl) (⟨by rw [revI, if_pos ⟨c_57, c_63⟩], rfl⟩)

set_option maxHeartbeats 4000000 in
set_option maxRecDepth 100000 in
theorem k_X6_wouldCutLastHolder (l : Launch) (D : va_G) (ad : Nat → Nat) (T : Nat → ClassId) (σ : ZS) (hI : zI σ) (g : Nat) (hg : g < σ.1 3) : zM l yX6_wouldCutLastHolder wsX6_wouldCutLastHolder ({ frames := 4, cells := 0, slots := 0, locals := 88 }) D (zT T) [.ref (ad 0), .int (nI g)] (wC ad T σ) 0 0 (qI D (zT T) (fun v w => v = bI (cutI σ g) ∧ w = wC ad T σ)) := by
  have hB0 := hI.bd
  obtain ⟨b0, b1, b2, b3, b4, b5⟩ := hI.bd
  refine zg_of (cc := cX6_wouldCutLastHolder) (maxL := 5) (ret := (some .boolean)) (by decide) rfl (Nat.le_of_ble_eq_true rfl) (fun p e s m below meth c A hin hr X => ?_)
  have X : zC p s m _ meth c cX6_wouldCutLastHolder 5 wsX6_wouldCutLastHolder RX6 D (zT T) A := X
  have f6 : ∀ w ∈ u_ws RX6 TX6 9, w ∈ wsX6_wouldCutLastHolder := by decide +kernel
  have f2 : ∀ w ∈ u_ws RX2 TX2 7, w ∈ wsX6_wouldCutLastHolder := by decide +kernel
  have f5 : ∀ w ∈ u_ws RX5 TX5 5, w ∈ wsX6_wouldCutLastHolder := by decide +kernel
  have l26 : Cond.fieldLink RX6 26 "Recertify" "rights" "LRecertify$Rights;" ∈ wsX6_wouldCutLastHolder := by decide +kernel
  have l33 : Cond.fieldLink RX6 33 "Recertify" "grants" "LRecertify$Grants;" ∈ wsX6_wouldCutLastHolder := by decide +kernel
  have l353 : Cond.fieldLink RX6 353 "Recertify$Grants" "people" "[I" ∈ wsX6_wouldCutLastHolder := by decide +kernel
  have l372 : Cond.fieldLink RX6 372 "Recertify$Grants" "rights" "[I" ∈ wsX6_wouldCutLastHolder := by decide +kernel
  have l400 : Cond.fieldLink RX6 400 "Recertify$Rights" "vital" "[Z" ∈ wsX6_wouldCutLastHolder := by decide +kernel
  refine zg_aload_n X dX6_wouldCutLastHolder_0 rfl ?_
  refine rg_R_grants X f6 l33 dX6_wouldCutLastHolder_1 ?_
  refine rg_Grants_rights X f2 l372 dX6_wouldCutLastHolder_4 ?_
  refine zg_iload_n X dX6_wouldCutLastHolder_7 rfl ?_
  refine rlC_gRight X (by omega) dX6_wouldCutLastHolder_8 ?_
  obtain ⟨r0, hr0, er⟩ := hI.gRt g hg
  refine zg_top er ?_
  refine zg_istore_n X dX6_wouldCutLastHolder_9 (by decide) ?_
  refine zg_aload_n X dX6_wouldCutLastHolder_10 rfl ?_
  refine rg_R_rights X f6 l26 dX6_wouldCutLastHolder_11 ?_
  refine rg_Rights_vital X f5 l400 dX6_wouldCutLastHolder_14 ?_
  refine zg_iload_n X dX6_wouldCutLastHolder_17 rfl ?_
  refine rlC_vital X (by omega) dX6_wouldCutLastHolder_18 ?_
  refine zg_if_ne X dX6_wouldCutLastHolder_19 (tgt := 24) (by decide) (fun c_19 => ?_) (fun c_19 => ?_)
  · skip
    refine zg_aload_n X dX6_wouldCutLastHolder_24 rfl ?_
    refine zg_iload_n X dX6_wouldCutLastHolder_25 rfl ?_
    refine zg_iload_n X dX6_wouldCutLastHolder_26 rfl ?_
    refine zg_callVi X (k_X6_findHolders l D ad T _ hI r0 (by omega) (nI g)) zFr.rf gX6_wouldCutLastHolder_X6_findHolders rfl rfl rfl qv_X6_findHolders rfl ⟨Nat.le_of_ble_eq_true rfl, Nat.le_of_ble_eq_true rfl⟩ (q0 := 0) (ci := 8) rfl rfl rfl (Nat.le_of_ble_eq_true rfl) ⟨Nat.le_of_ble_eq_true rfl, Nat.le_of_ble_eq_true rfl⟩ dX6_wouldCutLastHolder_27 (fun r w1 hz9 => ?_)
    obtain ⟨rfl, rfl⟩ := hz9
    refine zg_istore_n X dX6_wouldCutLastHolder_30 (by decide) ?_
    refine zg_aload_n X dX6_wouldCutLastHolder_31 rfl ?_
    refine rg_R_grants X f6 l33 dX6_wouldCutLastHolder_32 ?_
    refine rg_Grants_people X f2 l353 dX6_wouldCutLastHolder_35 ?_
    refine zg_iload_n X dX6_wouldCutLastHolder_38 rfl ?_
    refine rlC_gPeople X (by omega) dX6_wouldCutLastHolder_39 ?_
    refine zg_istore X dX6_wouldCutLastHolder_40 (by decide) ?_
    refine zg_iload X dX6_wouldCutLastHolder_42 rfl ?_
    refine zg_iconst X (v := (-1)) dX6_wouldCutLastHolder_44 (by decide) ?_
    refine zg_icmp_eq X dX6_wouldCutLastHolder_45 (tgt := 58) (by decide) (fun c_45 => ?_) (fun c_45 => ?_)
    · skip
      refine zg_iload_n X dX6_wouldCutLastHolder_58 rfl ?_
      refine zg_if_ne X dX6_wouldCutLastHolder_59 (tgt := 66) (by decide) (fun c_59 => ?_) (fun c_59 => ?_)
      · skip
        refine zg_iconst X (v := 0) dX6_wouldCutLastHolder_66 (by decide) ?_
        exact zg_nret X hr (rfl) dX6_wouldCutLastHolder_67 (Nat.le_of_ble_eq_true rfl) (Nat.le_of_ble_eq_true rfl) (⟨(bI_f (fun h => c_59 (cutI_g er (by omega) c_45 h))).symm, rfl⟩)
      · skip
        refine zg_iconst X (v := 1) dX6_wouldCutLastHolder_62 (by decide) ?_
        refine zg_goto X dX6_wouldCutLastHolder_63 (tgt := 67) (by decide) ?_
        exact zg_nret X hr (rfl) dX6_wouldCutLastHolder_67 (Nat.le_of_ble_eq_true rfl) (Nat.le_of_ble_eq_true rfl) (⟨(bI_t (cutI_gt er (by omega) c_19 c_45 c_59)).symm, rfl⟩)
    · skip
      refine zg_iload_n X dX6_wouldCutLastHolder_48 rfl ?_
      refine zg_iload X dX6_wouldCutLastHolder_49 rfl ?_
      obtain ⟨j, hj, ej⟩ := hI.per g hg c_45
      refine zg_top ej ?_
      refine zg_callSi X (k_X6_bit l D ad T _ j) zFr.rf gX6_wouldCutLastHolder_X6_bit rfl rfl rfl qd_X6_bit rfl ⟨Nat.le_of_ble_eq_true rfl, Nat.le_of_ble_eq_true rfl⟩ rfl (Nat.le_of_ble_eq_true rfl) ⟨Nat.le_of_ble_eq_true rfl, Nat.le_of_ble_eq_true rfl⟩ dX6_wouldCutLastHolder_51 (fun r w1 hz9 => ?_)
      obtain ⟨rfl, rfl⟩ := hz9
      refine zg_iconst X (v := (-1)) dX6_wouldCutLastHolder_54 (by decide) ?_
      refine zg_ixor X dX6_wouldCutLastHolder_55 ?_
      refine zg_iand X dX6_wouldCutLastHolder_56 ?_
      refine zg_istore_n X dX6_wouldCutLastHolder_57 (by decide) ?_
      refine zg_iload_n X dX6_wouldCutLastHolder_58 rfl ?_
      refine zg_if_ne X dX6_wouldCutLastHolder_59 (tgt := 66) (by decide) (fun c_59 => ?_) (fun c_59 => ?_)
      · skip
        refine zg_iconst X (v := 0) dX6_wouldCutLastHolder_66 (by decide) ?_
        exact zg_nret X hr (rfl) dX6_wouldCutLastHolder_67 (Nat.le_of_ble_eq_true rfl) (Nat.le_of_ble_eq_true rfl) (⟨(bI_f (fun h => c_59 (cutI_p er (by omega) ej (by omega) h))).symm, rfl⟩)
      · skip
        refine zg_iconst X (v := 1) dX6_wouldCutLastHolder_62 (by decide) ?_
        refine zg_goto X dX6_wouldCutLastHolder_63 (tgt := 67) (by decide) ?_
        exact zg_nret X hr (rfl) dX6_wouldCutLastHolder_67 (Nat.le_of_ble_eq_true rfl) (Nat.le_of_ble_eq_true rfl) (⟨(bI_t (cutI_pt er (by omega) c_19 ej (by omega) c_59)).symm, rfl⟩)
  · skip
    refine zg_iconst X (v := 0) dX6_wouldCutLastHolder_22 (by decide) ?_
    exact zg_nret X hr (rfl) dX6_wouldCutLastHolder_23 (Nat.le_of_ble_eq_true rfl) (Nat.le_of_ble_eq_true rfl) (⟨(bI_f (fun h => h.1 (by rw [er, ix_nI (by omega)]; exact c_19))).symm, rfl⟩)
