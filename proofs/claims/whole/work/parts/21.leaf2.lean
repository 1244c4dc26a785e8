/-! rows of methods, laid by a program of mine (wip/whole/walk.py) out of the bytecode and annotations -/
theorem qd_J6_bitCount_0f7a4 : yJ6_bitCount_0f7a4.cls ≠ "java/lang/invoke/MethodHandle" ∧ yJ6_bitCount_0f7a4.cls ≠ "java/lang/invoke/VarHandle" ∧ (parseMethodDescriptor yJ6_bitCount_0f7a4.desc).map (fun d => d.parameters.length) = some 1 := by decide +kernel
theorem qv_J6_bitCount_0f7a4 : yJ6_bitCount_0f7a4.cls = RJ6 ∧ yJ6_bitCount_0f7a4.cls ≠ "java/lang/invoke/MethodHandle" ∧ yJ6_bitCount_0f7a4.cls ≠ "java/lang/invoke/VarHandle" ∧ (parseMethodDescriptor yJ6_bitCount_0f7a4.desc).map (fun d => d.parameters.length) = some 1 := ⟨rfl, qd_J6_bitCount_0f7a4⟩
theorem qd_X0_addItem : yX0_addItem.cls ≠ "java/lang/invoke/MethodHandle" ∧ yX0_addItem.cls ≠ "java/lang/invoke/VarHandle" ∧ (parseMethodDescriptor yX0_addItem.desc).map (fun d => d.parameters.length) = some 1 := by decide +kernel
theorem qv_X0_addItem : yX0_addItem.cls = RX0 ∧ yX0_addItem.cls ≠ "java/lang/invoke/MethodHandle" ∧ yX0_addItem.cls ≠ "java/lang/invoke/VarHandle" ∧ (parseMethodDescriptor yX0_addItem.desc).map (fun d => d.parameters.length) = some 1 := ⟨rfl, qd_X0_addItem⟩
theorem qd_X0_open : yX0_open.cls ≠ "java/lang/invoke/MethodHandle" ∧ yX0_open.cls ≠ "java/lang/invoke/VarHandle" ∧ (parseMethodDescriptor yX0_open.desc).map (fun d => d.parameters.length) = some 1 := by decide +kernel
theorem qv_X0_open : yX0_open.cls = RX0 ∧ yX0_open.cls ≠ "java/lang/invoke/MethodHandle" ∧ yX0_open.cls ≠ "java/lang/invoke/VarHandle" ∧ (parseMethodDescriptor yX0_open.desc).map (fun d => d.parameters.length) = some 1 := ⟨rfl, qd_X0_open⟩
theorem qd_X0_settle : yX0_settle.cls ≠ "java/lang/invoke/MethodHandle" ∧ yX0_settle.cls ≠ "java/lang/invoke/VarHandle" ∧ (parseMethodDescriptor yX0_settle.desc).map (fun d => d.parameters.length) = some 3 := by decide +kernel
theorem qv_X0_settle : yX0_settle.cls = RX0 ∧ yX0_settle.cls ≠ "java/lang/invoke/MethodHandle" ∧ yX0_settle.cls ≠ "java/lang/invoke/VarHandle" ∧ (parseMethodDescriptor yX0_settle.desc).map (fun d => d.parameters.length) = some 3 := ⟨rfl, qd_X0_settle⟩
theorem qd_X1_add : yX1_add.cls ≠ "java/lang/invoke/MethodHandle" ∧ yX1_add.cls ≠ "java/lang/invoke/VarHandle" ∧ (parseMethodDescriptor yX1_add.desc).map (fun d => d.parameters.length) = some 3 := by decide +kernel
theorem qv_X1_add : yX1_add.cls = RX1 ∧ yX1_add.cls ≠ "java/lang/invoke/MethodHandle" ∧ yX1_add.cls ≠ "java/lang/invoke/VarHandle" ∧ (parseMethodDescriptor yX1_add.desc).map (fun d => d.parameters.length) = some 3 := ⟨rfl, qd_X1_add⟩
theorem qd_X1_replay : yX1_replay.cls ≠ "java/lang/invoke/MethodHandle" ∧ yX1_replay.cls ≠ "java/lang/invoke/VarHandle" ∧ (parseMethodDescriptor yX1_replay.desc).map (fun d => d.parameters.length) = some 1 := by decide +kernel
theorem qv_X1_replay : yX1_replay.cls = RX1 ∧ yX1_replay.cls ≠ "java/lang/invoke/MethodHandle" ∧ yX1_replay.cls ≠ "java/lang/invoke/VarHandle" ∧ (parseMethodDescriptor yX1_replay.desc).map (fun d => d.parameters.length) = some 1 := ⟨rfl, qd_X1_replay⟩
theorem qd_X1_seal : yX1_seal.cls ≠ "java/lang/invoke/MethodHandle" ∧ yX1_seal.cls ≠ "java/lang/invoke/VarHandle" ∧ (parseMethodDescriptor yX1_seal.desc).map (fun d => d.parameters.length) = some 2 := by decide +kernel
theorem qv_X1_seal : yX1_seal.cls = RX1 ∧ yX1_seal.cls ≠ "java/lang/invoke/MethodHandle" ∧ yX1_seal.cls ≠ "java/lang/invoke/VarHandle" ∧ (parseMethodDescriptor yX1_seal.desc).map (fun d => d.parameters.length) = some 2 := ⟨rfl, qd_X1_seal⟩
theorem qd_X2_add : yX2_add.cls ≠ "java/lang/invoke/MethodHandle" ∧ yX2_add.cls ≠ "java/lang/invoke/VarHandle" ∧ (parseMethodDescriptor yX2_add.desc).map (fun d => d.parameters.length) = some 4 := by decide +kernel
theorem qv_X2_add : yX2_add.cls = RX2 ∧ yX2_add.cls ≠ "java/lang/invoke/MethodHandle" ∧ yX2_add.cls ≠ "java/lang/invoke/VarHandle" ∧ (parseMethodDescriptor yX2_add.desc).map (fun d => d.parameters.length) = some 4 := ⟨rfl, qd_X2_add⟩
theorem qd_X2_findFirstDue : yX2_findFirstDue.cls ≠ "java/lang/invoke/MethodHandle" ∧ yX2_findFirstDue.cls ≠ "java/lang/invoke/VarHandle" ∧ (parseMethodDescriptor yX2_findFirstDue.desc).map (fun d => d.parameters.length) = some 2 := by decide +kernel
theorem qv_X2_findFirstDue : yX2_findFirstDue.cls = RX2 ∧ yX2_findFirstDue.cls ≠ "java/lang/invoke/MethodHandle" ∧ yX2_findFirstDue.cls ≠ "java/lang/invoke/VarHandle" ∧ (parseMethodDescriptor yX2_findFirstDue.desc).map (fun d => d.parameters.length) = some 2 := ⟨rfl, qd_X2_findFirstDue⟩
theorem qd_X2_hasActive : yX2_hasActive.cls ≠ "java/lang/invoke/MethodHandle" ∧ yX2_hasActive.cls ≠ "java/lang/invoke/VarHandle" ∧ (parseMethodDescriptor yX2_hasActive.desc).map (fun d => d.parameters.length) = some 3 := by decide +kernel
theorem qv_X2_hasActive : yX2_hasActive.cls = RX2 ∧ yX2_hasActive.cls ≠ "java/lang/invoke/MethodHandle" ∧ yX2_hasActive.cls ≠ "java/lang/invoke/VarHandle" ∧ (parseMethodDescriptor yX2_hasActive.desc).map (fun d => d.parameters.length) = some 3 := ⟨rfl, qd_X2_hasActive⟩
theorem qd_X2_hasAnyInState : yX2_hasAnyInState.cls ≠ "java/lang/invoke/MethodHandle" ∧ yX2_hasAnyInState.cls ≠ "java/lang/invoke/VarHandle" ∧ (parseMethodDescriptor yX2_hasAnyInState.desc).map (fun d => d.parameters.length) = some 1 := by decide +kernel
theorem qv_X2_hasAnyInState : yX2_hasAnyInState.cls = RX2 ∧ yX2_hasAnyInState.cls ≠ "java/lang/invoke/MethodHandle" ∧ yX2_hasAnyInState.cls ≠ "java/lang/invoke/VarHandle" ∧ (parseMethodDescriptor yX2_hasAnyInState.desc).map (fun d => d.parameters.length) = some 1 := ⟨rfl, qd_X2_hasAnyInState⟩
theorem qd_X2_isActiveOf : yX2_isActiveOf.cls ≠ "java/lang/invoke/MethodHandle" ∧ yX2_isActiveOf.cls ≠ "java/lang/invoke/VarHandle" ∧ (parseMethodDescriptor yX2_isActiveOf.desc).map (fun d => d.parameters.length) = some 2 := by decide +kernel
theorem qv_X2_isActiveOf : yX2_isActiveOf.cls = RX2 ∧ yX2_isActiveOf.cls ≠ "java/lang/invoke/MethodHandle" ∧ yX2_isActiveOf.cls ≠ "java/lang/invoke/VarHandle" ∧ (parseMethodDescriptor yX2_isActiveOf.desc).map (fun d => d.parameters.length) = some 2 := ⟨rfl, qd_X2_isActiveOf⟩
theorem qd_X3_add : yX3_add.cls ≠ "java/lang/invoke/MethodHandle" ∧ yX3_add.cls ≠ "java/lang/invoke/VarHandle" ∧ (parseMethodDescriptor yX3_add.desc).map (fun d => d.parameters.length) = some 1 := by decide +kernel
theorem qv_X3_add : yX3_add.cls = RX3 ∧ yX3_add.cls ≠ "java/lang/invoke/MethodHandle" ∧ yX3_add.cls ≠ "java/lang/invoke/VarHandle" ∧ (parseMethodDescriptor yX3_add.desc).map (fun d => d.parameters.length) = some 1 := ⟨rfl, qd_X3_add⟩
theorem qd_X3_addNested : yX3_addNested.cls ≠ "java/lang/invoke/MethodHandle" ∧ yX3_addNested.cls ≠ "java/lang/invoke/VarHandle" ∧ (parseMethodDescriptor yX3_addNested.desc).map (fun d => d.parameters.length) = some 2 := by decide +kernel
theorem qv_X3_addNested : yX3_addNested.cls = RX3 ∧ yX3_addNested.cls ≠ "java/lang/invoke/MethodHandle" ∧ yX3_addNested.cls ≠ "java/lang/invoke/VarHandle" ∧ (parseMethodDescriptor yX3_addNested.desc).map (fun d => d.parameters.length) = some 2 := ⟨rfl, qd_X3_addNested⟩
theorem qd_X3_countPaths : yX3_countPaths.cls ≠ "java/lang/invoke/MethodHandle" ∧ yX3_countPaths.cls ≠ "java/lang/invoke/VarHandle" ∧ (parseMethodDescriptor yX3_countPaths.desc).map (fun d => d.parameters.length) = some 2 := by decide +kernel
theorem qv_X3_countPaths : yX3_countPaths.cls = RX3 ∧ yX3_countPaths.cls ≠ "java/lang/invoke/MethodHandle" ∧ yX3_countPaths.cls ≠ "java/lang/invoke/VarHandle" ∧ (parseMethodDescriptor yX3_countPaths.desc).map (fun d => d.parameters.length) = some 2 := ⟨rfl, qd_X3_countPaths⟩
theorem qd_X3_findAllMembers : yX3_findAllMembers.cls ≠ "java/lang/invoke/MethodHandle" ∧ yX3_findAllMembers.cls ≠ "java/lang/invoke/VarHandle" ∧ (parseMethodDescriptor yX3_findAllMembers.desc).map (fun d => d.parameters.length) = some 0 := by decide +kernel
theorem qv_X3_findAllMembers : yX3_findAllMembers.cls = RX3 ∧ yX3_findAllMembers.cls ≠ "java/lang/invoke/MethodHandle" ∧ yX3_findAllMembers.cls ≠ "java/lang/invoke/VarHandle" ∧ (parseMethodDescriptor yX3_findAllMembers.desc).map (fun d => d.parameters.length) = some 0 := ⟨rfl, qd_X3_findAllMembers⟩
theorem qd_X3_findBelow : yX3_findBelow.cls ≠ "java/lang/invoke/MethodHandle" ∧ yX3_findBelow.cls ≠ "java/lang/invoke/VarHandle" ∧ (parseMethodDescriptor yX3_findBelow.desc).map (fun d => d.parameters.length) = some 1 := by decide +kernel
theorem qv_X3_findBelow : yX3_findBelow.cls = RX3 ∧ yX3_findBelow.cls ≠ "java/lang/invoke/MethodHandle" ∧ yX3_findBelow.cls ≠ "java/lang/invoke/VarHandle" ∧ (parseMethodDescriptor yX3_findBelow.desc).map (fun d => d.parameters.length) = some 1 := ⟨rfl, qd_X3_findBelow⟩
theorem qd_X3_findOnPath : yX3_findOnPath.cls ≠ "java/lang/invoke/MethodHandle" ∧ yX3_findOnPath.cls ≠ "java/lang/invoke/VarHandle" ∧ (parseMethodDescriptor yX3_findOnPath.desc).map (fun d => d.parameters.length) = some 4 := by decide +kernel
theorem qv_X3_findOnPath : yX3_findOnPath.cls = RX3 ∧ yX3_findOnPath.cls ≠ "java/lang/invoke/MethodHandle" ∧ yX3_findOnPath.cls ≠ "java/lang/invoke/VarHandle" ∧ (parseMethodDescriptor yX3_findOnPath.desc).map (fun d => d.parameters.length) = some 4 := ⟨rfl, qd_X3_findOnPath⟩
theorem qd_X3_findWithin : yX3_findWithin.cls ≠ "java/lang/invoke/MethodHandle" ∧ yX3_findWithin.cls ≠ "java/lang/invoke/VarHandle" ∧ (parseMethodDescriptor yX3_findWithin.desc).map (fun d => d.parameters.length) = some 2 := by decide +kernel
theorem qv_X3_findWithin : yX3_findWithin.cls = RX3 ∧ yX3_findWithin.cls ≠ "java/lang/invoke/MethodHandle" ∧ yX3_findWithin.cls ≠ "java/lang/invoke/VarHandle" ∧ (parseMethodDescriptor yX3_findWithin.desc).map (fun d => d.parameters.length) = some 2 := ⟨rfl, qd_X3_findWithin⟩
theorem qd_X3_membersOf : yX3_membersOf.cls ≠ "java/lang/invoke/MethodHandle" ∧ yX3_membersOf.cls ≠ "java/lang/invoke/VarHandle" ∧ (parseMethodDescriptor yX3_membersOf.desc).map (fun d => d.parameters.length) = some 1 := by decide +kernel
theorem qv_X3_membersOf : yX3_membersOf.cls = RX3 ∧ yX3_membersOf.cls ≠ "java/lang/invoke/MethodHandle" ∧ yX3_membersOf.cls ≠ "java/lang/invoke/VarHandle" ∧ (parseMethodDescriptor yX3_membersOf.desc).map (fun d => d.parameters.length) = some 1 := ⟨rfl, qd_X3_membersOf⟩
theorem qd_X3_ownerOf : yX3_ownerOf.cls ≠ "java/lang/invoke/MethodHandle" ∧ yX3_ownerOf.cls ≠ "java/lang/invoke/VarHandle" ∧ (parseMethodDescriptor yX3_ownerOf.desc).map (fun d => d.parameters.length) = some 1 := by decide +kernel
theorem qv_X3_ownerOf : yX3_ownerOf.cls = RX3 ∧ yX3_ownerOf.cls ≠ "java/lang/invoke/MethodHandle" ∧ yX3_ownerOf.cls ≠ "java/lang/invoke/VarHandle" ∧ (parseMethodDescriptor yX3_ownerOf.desc).map (fun d => d.parameters.length) = some 1 := ⟨rfl, qd_X3_ownerOf⟩
theorem qd_X3_setDirect : yX3_setDirect.cls ≠ "java/lang/invoke/MethodHandle" ∧ yX3_setDirect.cls ≠ "java/lang/invoke/VarHandle" ∧ (parseMethodDescriptor yX3_setDirect.desc).map (fun d => d.parameters.length) = some 2 := by decide +kernel
theorem qv_X3_setDirect : yX3_setDirect.cls = RX3 ∧ yX3_setDirect.cls ≠ "java/lang/invoke/MethodHandle" ∧ yX3_setDirect.cls ≠ "java/lang/invoke/VarHandle" ∧ (parseMethodDescriptor yX3_setDirect.desc).map (fun d => d.parameters.length) = some 2 := ⟨rfl, qd_X3_setDirect⟩
theorem qd_X3_walk : yX3_walk.cls ≠ "java/lang/invoke/MethodHandle" ∧ yX3_walk.cls ≠ "java/lang/invoke/VarHandle" ∧ (parseMethodDescriptor yX3_walk.desc).map (fun d => d.parameters.length) = some 5 := by decide +kernel
theorem qv_X3_walk : yX3_walk.cls = RX3 ∧ yX3_walk.cls ≠ "java/lang/invoke/MethodHandle" ∧ yX3_walk.cls ≠ "java/lang/invoke/VarHandle" ∧ (parseMethodDescriptor yX3_walk.desc).map (fun d => d.parameters.length) = some 5 := ⟨rfl, qd_X3_walk⟩
theorem qd_X5_add : yX5_add.cls ≠ "java/lang/invoke/MethodHandle" ∧ yX5_add.cls ≠ "java/lang/invoke/VarHandle" ∧ (parseMethodDescriptor yX5_add.desc).map (fun d => d.parameters.length) = some 3 := by decide +kernel
theorem qv_X5_add : yX5_add.cls = RX5 ∧ yX5_add.cls ≠ "java/lang/invoke/MethodHandle" ∧ yX5_add.cls ≠ "java/lang/invoke/VarHandle" ∧ (parseMethodDescriptor yX5_add.desc).map (fun d => d.parameters.length) = some 3 := ⟨rfl, qd_X5_add⟩
theorem ev_eq {σ : ZS} {f1 f2 f3 : Nat → Int32} {k : Nat} {b sg g dy : Int32} : evSeal (uA (uA (uA σ 14 (upd f1 k sg)) 23 (upd f2 k g)) 24 (upd f3 k dy)) b k = sealI b g dy sg := by simp [evSeal, uA, va_up, upd]
set_option maxHeartbeats 4000000 in
set_option maxRecDepth 100000 in
theorem k_J6_bitCount_0f7a4 (l : Launch) (D : va_G) (ad : Nat → Nat) (T : Nat → ClassId) (σ : ZS) (x : Int32) : zM l yJ6_bitCount_0f7a4 wsJ6_bitCount_0f7a4 ({ frames := 0, cells := 0, slots := 0, locals := 0 }) D (zT T) [.int x] (wC ad T σ) 0 0 (qI D (zT T) (fun r w => r = bcnt x ∧ w = wC ad T σ)) := by
  refine zg_of (cc := cJ6_bitCount_0f7a4) (maxL := 1) (ret := (some .int)) (by decide) rfl (Nat.le_of_ble_eq_true rfl) (fun p e s m below meth c A hin hr X => ?_)
  have X : zC p s m _ meth c cJ6_bitCount_0f7a4 1 wsJ6_bitCount_0f7a4 RJ6 D (zT T) A := X
  have l265 : Cond.constant RJ6 265 (1431655765) ∈ wsJ6_bitCount_0f7a4 := by decide +kernel
  have l266 : Cond.constant RJ6 266 (858993459) ∈ wsJ6_bitCount_0f7a4 := by decide +kernel
  have l267 : Cond.constant RJ6 267 (252645135) ∈ wsJ6_bitCount_0f7a4 := by decide +kernel
  refine zg_iload_n X dJ6_bitCount_0f7a4_0 rfl ?_
  refine zg_iload_n X dJ6_bitCount_0f7a4_1 rfl ?_
  refine zg_iconst X (v := 1) dJ6_bitCount_0f7a4_2 (by decide) ?_
  refine zg_iushr X dJ6_bitCount_0f7a4_3 rfl ?_
  refine zg_ldcw X (v := 1431655765) dJ6_bitCount_0f7a4_4 l265 ?_
  refine zg_iand X dJ6_bitCount_0f7a4_7 ?_
  refine zg_isub X dJ6_bitCount_0f7a4_8 ?_
  refine zg_istore_n X dJ6_bitCount_0f7a4_9 (by decide) ?_
  refine zg_iload_n X dJ6_bitCount_0f7a4_10 rfl ?_
  refine zg_ldcw X (v := 858993459) dJ6_bitCount_0f7a4_11 l266 ?_
  refine zg_iand X dJ6_bitCount_0f7a4_14 ?_
  refine zg_iload_n X dJ6_bitCount_0f7a4_15 rfl ?_
  refine zg_iconst X (v := 2) dJ6_bitCount_0f7a4_16 (by decide) ?_
  refine zg_iushr X dJ6_bitCount_0f7a4_17 rfl ?_
  refine zg_ldcw X (v := 858993459) dJ6_bitCount_0f7a4_18 l266 ?_
  refine zg_iand X dJ6_bitCount_0f7a4_21 ?_
  refine zg_iadd X dJ6_bitCount_0f7a4_22 ?_
  refine zg_istore_n X dJ6_bitCount_0f7a4_23 (by decide) ?_
  refine zg_iload_n X dJ6_bitCount_0f7a4_24 rfl ?_
  refine zg_iload_n X dJ6_bitCount_0f7a4_25 rfl ?_
  refine zg_iconst X (v := 4) dJ6_bitCount_0f7a4_26 (by decide) ?_
  refine zg_iushr X dJ6_bitCount_0f7a4_27 rfl ?_
  refine zg_iadd X dJ6_bitCount_0f7a4_28 ?_
  refine zg_ldcw X (v := 252645135) dJ6_bitCount_0f7a4_29 l267 ?_
  refine zg_iand X dJ6_bitCount_0f7a4_32 ?_
  refine zg_istore_n X dJ6_bitCount_0f7a4_33 (by decide) ?_
  refine zg_iload_n X dJ6_bitCount_0f7a4_34 rfl ?_
  refine zg_iload_n X dJ6_bitCount_0f7a4_35 rfl ?_
  refine zg_bipush X (v := 8) dJ6_bitCount_0f7a4_36 (by decide) ?_
  refine zg_iushr X dJ6_bitCount_0f7a4_38 rfl ?_
  refine zg_iadd X dJ6_bitCount_0f7a4_39 ?_
  refine zg_istore_n X dJ6_bitCount_0f7a4_40 (by decide) ?_
  refine zg_iload_n X dJ6_bitCount_0f7a4_41 rfl ?_
  refine zg_iload_n X dJ6_bitCount_0f7a4_42 rfl ?_
  refine zg_bipush X (v := 16) dJ6_bitCount_0f7a4_43 (by decide) ?_
  refine zg_iushr X dJ6_bitCount_0f7a4_45 rfl ?_
  refine zg_iadd X dJ6_bitCount_0f7a4_46 ?_
  refine zg_istore_n X dJ6_bitCount_0f7a4_47 (by decide) ?_
  refine zg_iload_n X dJ6_bitCount_0f7a4_48 rfl ?_
  refine zg_bipush X (v := 63) dJ6_bitCount_0f7a4_49 (by decide) ?_
  refine zg_iand X dJ6_bitCount_0f7a4_51 ?_
  exact zg_iret X hr dJ6_bitCount_0f7a4_52 (Nat.le_of_ble_eq_true rfl) (Nat.le_of_ble_eq_true rfl) (⟨rfl, rfl⟩)

set_option maxHeartbeats 4000000 in
set_option maxRecDepth 100000 in
theorem k_X5_add (l : Launch) (D : va_G) (ad : Nat → Nat) (T : Nat → ClassId) (σ : ZS) (sn o vt : Int32) (hlt : σ.1 2 < 10) (hvt : vp_nar .boolean vt = vt) : zM l yX5_add wsX5_add ({ frames := 0, cells := 0, slots := 0, locals := 0 }) D (zT T) [.ref (ad 3), .int sn, .int o, .int vt] (wC ad T σ) 0 0 (qI D (zT T) (fun r w => r = nI (σ.1 2) ∧ w = wC ad T (uC (uA (uA (uA σ 6 (upd (σ.2.2 6) (σ.1 2) sn)) 7 (upd (σ.2.2 7) (σ.1 2) o)) 9 (upd (σ.2.2 9) (σ.1 2) vt)) 2 (σ.1 2 + 1)))) := by
  refine zg_of (cc := cX5_add) (maxL := 4) (ret := (some .int)) (by decide) rfl (Nat.le_of_ble_eq_true rfl) (fun p e s m below meth c A hin hr X => ?_)
  have X : zC p s m _ meth c cX5_add 4 wsX5_add RX5 D (zT T) A := X
  have f5 : ∀ w ∈ u_ws RX5 TX5 5, w ∈ wsX5_add := by decide +kernel
  have l15 : Cond.fieldLink RX5 15 "Recertify$Rights" "owners" "[I" ∈ wsX5_add := by decide +kernel
  have l18 : Cond.fieldLink RX5 18 "Recertify$Rights" "vital" "[Z" ∈ wsX5_add := by decide +kernel
  have l25 : Cond.fieldLink RX5 25 "Recertify$Rights" "count" "I" ∈ wsX5_add := by decide +kernel
  have l9 : Cond.fieldLink RX5 9 "Recertify$Rights" "sensitivities" "[I" ∈ wsX5_add := by decide +kernel
  refine zg_aload_n X dX5_add_0 rfl ?_
  refine rg_Rights_sensitivities X f5 l9 dX5_add_1 ?_
  refine zg_aload_n X dX5_add_4 rfl ?_
  refine rg_Rights_count X f5 l25 dX5_add_5 ?_
  refine zg_iload_n X dX5_add_8 rfl ?_
  refine rsC_sens X hlt dX5_add_9 ?_
  refine zg_aload_n X dX5_add_10 rfl ?_
  refine rg_Rights_owners X f5 l15 dX5_add_11 ?_
  refine zg_aload_n X dX5_add_14 rfl ?_
  refine rg_Rights_count X f5 l25 dX5_add_15 ?_
  refine zg_iload_n X dX5_add_18 rfl ?_
  refine rsC_rOwners X hlt dX5_add_19 ?_
  refine zg_aload_n X dX5_add_20 rfl ?_
  refine rg_Rights_vital X f5 l18 dX5_add_21 ?_
  refine zg_aload_n X dX5_add_24 rfl ?_
  refine rg_Rights_count X f5 l25 dX5_add_25 ?_
  refine zg_iload_n X dX5_add_28 rfl ?_
  refine rsC_vital X hlt hvt dX5_add_29 ?_
  refine zg_aload_n X dX5_add_30 rfl ?_
  refine zg_dup X dX5_add_31 rfl ?_
  refine rg_Rights_count X f5 l25 dX5_add_32 ?_
  refine zg_dup_x1 X dX5_add_35 rfl rfl ?_
  refine zg_iconst X (v := 1) dX5_add_36 (by decide) ?_
  refine zg_iadd X dX5_add_37 ?_
  refine zg_top (nI_1 _) ?_
  refine rp_Rights_count X f5 l25 dX5_add_38 ?_
  exact zg_iret X hr dX5_add_41 (Nat.le_of_ble_eq_true rfl) (Nat.le_of_ble_eq_true rfl) (⟨rfl, rfl⟩)

set_option maxHeartbeats 4000000 in
set_option maxRecDepth 100000 in
theorem k_X3_add (l : Launch) (D : va_G) (ad : Nat → Nat) (T : Nat → ClassId) (σ : ZS) (o : Int32) (hlt : σ.1 1 < 8) : zM l yX3_add wsX3_add ({ frames := 0, cells := 0, slots := 0, locals := 0 }) D (zT T) [.ref (ad 2), .int o] (wC ad T σ) 0 0 (qI D (zT T) (fun r w => r = nI (σ.1 1) ∧ w = wC ad T (uC (uA σ 3 (upd (σ.2.2 3) (σ.1 1) o)) 1 (σ.1 1 + 1)))) := by
  refine zg_of (cc := cX3_add) (maxL := 2) (ret := (some .int)) (by decide) rfl (Nat.le_of_ble_eq_true rfl) (fun p e s m below meth c A hin hr X => ?_)
  have X : zC p s m _ meth c cX3_add 2 wsX3_add RX3 D (zT T) A := X
  have f3 : ∀ w ∈ u_ws RX3 TX3 5, w ∈ wsX3_add := by decide +kernel
  have l24 : Cond.fieldLink RX3 24 "Recertify$Groups" "count" "I" ∈ wsX3_add := by decide +kernel
  have l9 : Cond.fieldLink RX3 9 "Recertify$Groups" "owners" "[I" ∈ wsX3_add := by decide +kernel
  refine zg_aload_n X dX3_add_0 rfl ?_
  refine rg_Groups_owners X f3 l9 dX3_add_1 ?_
  refine zg_aload_n X dX3_add_4 rfl ?_
  refine rg_Groups_count X f3 l24 dX3_add_5 ?_
  refine zg_iload_n X dX3_add_8 rfl ?_
  refine rsC_gOwners X hlt dX3_add_9 ?_
  refine zg_aload_n X dX3_add_10 rfl ?_
  refine zg_dup X dX3_add_11 rfl ?_
  refine rg_Groups_count X f3 l24 dX3_add_12 ?_
  refine zg_dup_x1 X dX3_add_15 rfl rfl ?_
  refine zg_iconst X (v := 1) dX3_add_16 (by decide) ?_
  refine zg_iadd X dX3_add_17 ?_
  refine zg_top (nI_1 _) ?_
  refine rp_Groups_count X f3 l24 dX3_add_18 ?_
  exact zg_iret X hr dX3_add_21 (Nat.le_of_ble_eq_true rfl) (Nat.le_of_ble_eq_true rfl) (⟨rfl, rfl⟩)

set_option maxHeartbeats 4000000 in
set_option maxRecDepth 100000 in
theorem k_X3_ownerOf (l : Launch) (D : va_G) (ad : Nat → Nat) (T : Nat → ClassId) (σ : ZS) (hB0 : zBd σ) (x : Int32) : zM l yX3_ownerOf wsX3_ownerOf ({ frames := 1, cells := 0, slots := 0, locals := 21 }) D (zT T) [.ref (ad 2), .int x] (wC ad T σ) 0 0 (qI D (zT T) (fun r w => r = (if pIn x (σ.1 1) then σ.2.2 3 (ix x) else -1) ∧ w = wC ad T σ)) := by
  have hB1 := hB0
  obtain ⟨b0, b1, b2, b3, b4, b5⟩ := hB1
  refine zg_of (cc := cX3_ownerOf) (maxL := 2) (ret := (some .int)) (by decide) rfl (Nat.le_of_ble_eq_true rfl) (fun p e s m below meth c A hin hr X => ?_)
  have X : zC p s m _ meth c cX3_ownerOf 2 wsX3_ownerOf RX3 D (zT T) A := X
  have f3 : ∀ w ∈ u_ws RX3 TX3 5, w ∈ wsX3_ownerOf := by decide +kernel
  have l9 : Cond.fieldLink RX3 9 "Recertify$Groups" "owners" "[I" ∈ wsX3_ownerOf := by decide +kernel
  refine zg_aload_n X dX3_ownerOf_0 rfl ?_
  refine zg_iload_n X dX3_ownerOf_1 rfl ?_
  refine zg_callVi X (k_X3_has l D ad T _ hB0 x) zFr.rf gX3_ownerOf_X3_has rfl rfl rfl qv_X3_has rfl ⟨Nat.le_of_ble_eq_true rfl, Nat.le_of_ble_eq_true rfl⟩ (q0 := 2) (ci := 5) rfl rfl rfl (Nat.le_of_ble_eq_true rfl) ⟨Nat.le_of_ble_eq_true rfl, Nat.le_of_ble_eq_true rfl⟩ dX3_ownerOf_2 (fun r w1 hz9 => ?_)
  obtain ⟨rfl, rfl⟩ := hz9
  refine zg_if_eqb X dX3_ownerOf_5 (tgt := 17) (by decide) (fun c_5 => ?_) (fun c_5 => ?_)
  · skip
    refine zg_iconst X (v := (-1)) dX3_ownerOf_17 (by decide) ?_
    exact zg_iret X hr dX3_ownerOf_18 (Nat.le_of_ble_eq_true rfl) (Nat.le_of_ble_eq_true rfl) (⟨(if_neg c_5).symm, rfl⟩)
  · skip
    obtain ⟨j, hj, rfl⟩ := pIn_idx (by omega) c_5
    refine zg_aload_n X dX3_ownerOf_8 rfl ?_
    refine rg_Groups_owners X f3 l9 dX3_ownerOf_9 ?_
    refine zg_iload_n X dX3_ownerOf_12 rfl ?_
    refine rlC_gOwners X (by omega) dX3_ownerOf_13 ?_
    refine zg_goto X dX3_ownerOf_14 (tgt := 18) (by decide) ?_
    exact zg_iret X hr dX3_ownerOf_18 (Nat.le_of_ble_eq_true rfl) (Nat.le_of_ble_eq_true rfl) (⟨by rw [if_pos c_5, ix_nI (by omega)], rfl⟩)

set_option maxHeartbeats 4000000 in
set_option maxRecDepth 100000 in
theorem k_X3_membersOf (l : Launch) (D : va_G) (ad : Nat → Nat) (T : Nat → ClassId) (σ : ZS) (hB0 : zBd σ) (x : Int32) : zM l yX3_membersOf wsX3_membersOf ({ frames := 1, cells := 0, slots := 0, locals := 21 }) D (zT T) [.ref (ad 2), .int x] (wC ad T σ) 0 0 (qI D (zT T) (fun r w => r = (if pIn x (σ.1 1) then σ.2.2 20 (ix x) else 0) ∧ w = wC ad T σ)) := by
  have hB1 := hB0
  obtain ⟨b0, b1, b2, b3, b4, b5⟩ := hB1
  refine zg_of (cc := cX3_membersOf) (maxL := 2) (ret := (some .int)) (by decide) rfl (Nat.le_of_ble_eq_true rfl) (fun p e s m below meth c A hin hr X => ?_)
  have X : zC p s m _ meth c cX3_membersOf 2 wsX3_membersOf RX3 D (zT T) A := X
  have f3 : ∀ w ∈ u_ws RX3 TX3 5, w ∈ wsX3_membersOf := by decide +kernel
  have l21 : Cond.fieldLink RX3 21 "Recertify$Groups" "all" "[I" ∈ wsX3_membersOf := by decide +kernel
  refine zg_aload_n X dX3_membersOf_0 rfl ?_
  refine zg_iload_n X dX3_membersOf_1 rfl ?_
  refine zg_callVi X (k_X3_has l D ad T _ hB0 x) zFr.rf gX3_membersOf_X3_has rfl rfl rfl qv_X3_has rfl ⟨Nat.le_of_ble_eq_true rfl, Nat.le_of_ble_eq_true rfl⟩ (q0 := 2) (ci := 5) rfl rfl rfl (Nat.le_of_ble_eq_true rfl) ⟨Nat.le_of_ble_eq_true rfl, Nat.le_of_ble_eq_true rfl⟩ dX3_membersOf_2 (fun r w1 hz9 => ?_)
  obtain ⟨rfl, rfl⟩ := hz9
  refine zg_if_eqb X dX3_membersOf_5 (tgt := 17) (by decide) (fun c_5 => ?_) (fun c_5 => ?_)
  · skip
    refine zg_iconst X (v := 0) dX3_membersOf_17 (by decide) ?_
    exact zg_iret X hr dX3_membersOf_18 (Nat.le_of_ble_eq_true rfl) (Nat.le_of_ble_eq_true rfl) (⟨(if_neg c_5).symm, rfl⟩)
  · skip
    obtain ⟨j, hj, rfl⟩ := pIn_idx (by omega) c_5
    refine zg_aload_n X dX3_membersOf_8 rfl ?_
    refine rg_Groups_all X f3 l21 dX3_membersOf_9 ?_
    refine zg_iload_n X dX3_membersOf_12 rfl ?_
    refine rlC_all X (by omega) dX3_membersOf_13 ?_
    refine zg_goto X dX3_membersOf_14 (tgt := 18) (by decide) ?_
    exact zg_iret X hr dX3_membersOf_18 (Nat.le_of_ble_eq_true rfl) (Nat.le_of_ble_eq_true rfl) (⟨by rw [if_pos c_5, ix_nI (by omega)], rfl⟩)

set_option maxHeartbeats 4000000 in
set_option maxRecDepth 100000 in
theorem k_X3_findBelow (l : Launch) (D : va_G) (ad : Nat → Nat) (T : Nat → ClassId) (σ : ZS) (hB0 : zBd σ) (g : Nat) (hg : g < σ.1 1) : zM l yX3_findBelow wsX3_findBelow ({ frames := 2, cells := 0, slots := 0, locals := 41 }) D (zT T) [.ref (ad 2), .int (nI g)] (wC ad T σ) 0 0 (qI D (zT T) (fun r w => r = belowI σ g ∧ w = wC ad T σ)) := by
  have hB1 := hB0
  obtain ⟨b0, b1, b2, b3, b4, b5⟩ := hB1
  refine zg_of (cc := cX3_findBelow) (maxL := 5) (ret := (some .int)) (by decide) rfl (Nat.le_of_ble_eq_true rfl) (fun p e s m below meth c A hin hr X => ?_)
  have X : zC p s m _ meth c cX3_findBelow 5 wsX3_findBelow RX3 D (zT T) A := X
  have f3 : ∀ w ∈ u_ws RX3 TX3 5, w ∈ wsX3_findBelow := by decide +kernel
  have l41i : Cond.initialized RX6 ∈ wsX3_findBelow := by decide +kernel
  have l41s : Cond.static yX6_bit ∈ wsX3_findBelow := by decide +kernel
  have l47i : Cond.initialized RX6 ∈ wsX3_findBelow := by decide +kernel
  have l47s : Cond.static yX6_contains ∈ wsX3_findBelow := by decide +kernel
  have l18 : Cond.fieldLink RX3 18 "Recertify$Groups" "nested" "[I" ∈ wsX3_findBelow := by decide +kernel
  have l24 : Cond.fieldLink RX3 24 "Recertify$Groups" "count" "I" ∈ wsX3_findBelow := by decide +kernel
  refine zg_iload_n X dX3_findBelow_0 rfl ?_
  refine zg_callSNi X (k_X6_bit l D ad T _ g) zFr.rf gX3_findBelow_X6_bit_n41 (host := RX6) (by decide +kernel) l41s l41i rfl rfl rfl qd_X6_bit rfl ⟨Nat.le_of_ble_eq_true rfl, Nat.le_of_ble_eq_true rfl⟩ rfl (Nat.le_of_ble_eq_true rfl) ⟨Nat.le_of_ble_eq_true rfl, Nat.le_of_ble_eq_true rfl⟩ dX3_findBelow_1 (fun r w1 hz9 => ?_)
  obtain ⟨rfl, rfl⟩ := hz9
  refine zg_istore_n X dX3_findBelow_4 (by decide) ?_
  refine zg_iconst X (v := 1) dX3_findBelow_5 (by decide) ?_
  refine zg_istore_n X dX3_findBelow_6 (by decide) ?_
  have LP7 : ∀ (fu : Nat) (i : Nat) (acc : Int32), (σ.1 1 - 1) + 1 ≤ i + fu → i ≤ (σ.1 1 - 1) → acc = fN (fun _ acc => belowR σ acc) (bt1 g) i → zG p l e (headSpec wsX3_findBelow ({ frames := 2, cells := 0, slots := 0, locals := 41 })).room s m [.ref (ad 2), .int (nI g)].toArray below meth c D 5 A 0 0 (MQ below (qI D (zT T) (fun r w => r = belowI σ g ∧ w = wC ad T σ) A) [.ref (ad 2), .int (nI g)].toArray s 0 0 A) (wC ad T σ) 7 [(0, .ref (ad 2)), (2, .int acc), (3, .int (nI (i + 1)))] [] := by
    intro fu
    induction fu with
    | zero => intro i acc hfu hii _; exact absurd hfu (by omega)
    | succ fu ih7 =>
      intro i acc hfu hii hacc
      refine zg_iload_n X dX3_findBelow_7 rfl ?_
      refine zg_aload_n X dX3_findBelow_8 rfl ?_
      refine rg_Groups_count X f3 l24 dX3_findBelow_9 ?_
      refine zg_icmpn_ge X dX3_findBelow_12 (tgt := 58) (by decide) (a := (i + 1)) (b := σ.1 1) (by omega) (by omega) (fun c_12 => ?_) (fun c_12 => ?_)
      · skip
        refine zg_iload_n X dX3_findBelow_58 rfl ?_
        exact zg_iret X hr dX3_findBelow_59 (Nat.le_of_ble_eq_true rfl) (Nat.le_of_ble_eq_true rfl) (⟨by rw [hacc, belowI, show i = σ.1 1 - 1 by omega], rfl⟩)
      · skip
        refine zg_iconst X (v := 0) dX3_findBelow_15 (by decide) ?_
        refine zg_istore X dX3_findBelow_16 (by decide) ?_
        have LP18 : ∀ (fu : Nat) (j : Nat) (f2 : Int32), σ.1 1 + 1 ≤ j + fu → j ≤ σ.1 1 → f2 = fN (belowF σ) acc j → zG p l e (headSpec wsX3_findBelow ({ frames := 2, cells := 0, slots := 0, locals := 41 })).room s m [.ref (ad 2), .int (nI g)].toArray below meth c D 5 A 0 0 (MQ below (qI D (zT T) (fun r w => r = belowI σ g ∧ w = wC ad T σ) A) [.ref (ad 2), .int (nI g)].toArray s 0 0 A) (wC ad T σ) 18 [(0, .ref (ad 2)), (2, .int f2), (3, .int (nI (i + 1))), (4, .int (nI j))] [] := by
          intro fu
          induction fu with
          | zero => intro j f2 hfu hij _; exact absurd hfu (by omega)
          | succ fu ih18 =>
            intro j f2 hfu hij hf2
            refine zg_iload X dX3_findBelow_18 rfl ?_
            refine zg_aload_n X dX3_findBelow_20 rfl ?_
            refine rg_Groups_count X f3 l24 dX3_findBelow_21 ?_
            refine zg_icmpn_ge X dX3_findBelow_24 (tgt := 52) (by decide) (a := j) (b := σ.1 1) (by omega) (by omega) (fun c_24 => ?_) (fun c_24 => ?_)
            · skip
              refine zg_iinc1 X dX3_findBelow_52 (by decide) rfl ?_
              refine zg_goto X dX3_findBelow_55 (tgt := 7) (by decide) ?_
              exact zg_lv (by exact ⟨rfl, rfl, rfl, trivial⟩) (ih7 (i + 1) _ (by omega) (by omega) (by rw [fN, ← hacc, hf2, belowR, show j = σ.1 1 by omega]))
            · skip
              refine zg_iload_n X dX3_findBelow_27 rfl ?_
              refine zg_iload X dX3_findBelow_28 rfl ?_
              refine zg_callSNi X (k_X6_contains l D ad T _ f2 j) zFr.rf gX3_findBelow_X6_contains_n47 (host := RX6) (by decide +kernel) l47s l47i rfl rfl rfl qd_X6_contains rfl ⟨Nat.le_of_ble_eq_true rfl, Nat.le_of_ble_eq_true rfl⟩ rfl (Nat.le_of_ble_eq_true rfl) ⟨Nat.le_of_ble_eq_true rfl, Nat.le_of_ble_eq_true rfl⟩ dX3_findBelow_30 (fun r w1 hz9 => ?_)
              obtain ⟨rfl, rfl⟩ := hz9
              refine zg_if_eqb X dX3_findBelow_33 (tgt := 46) (by decide) (fun c_33 => ?_) (fun c_33 => ?_)
              · skip
                refine zg_iinc1 X dX3_findBelow_46 (by decide) rfl ?_
                refine zg_goto X dX3_findBelow_49 (tgt := 18) (by decide) ?_
                exact zg_lv (by exact ⟨rfl, rfl, rfl, rfl, trivial⟩) (ih18 (j + 1) _ (by omega) (by omega) (by rw [fN, ← hf2]; simp [belowF, c_24, c_33]))
              · skip
                refine zg_iload_n X dX3_findBelow_36 rfl ?_
                refine zg_aload_n X dX3_findBelow_37 rfl ?_
                refine rg_Groups_nested X f3 l18 dX3_findBelow_38 ?_
                refine zg_iload X dX3_findBelow_41 rfl ?_
                refine rlC_nested X (by omega) dX3_findBelow_43 ?_
                refine zg_ior X dX3_findBelow_44 ?_
                refine zg_istore_n X dX3_findBelow_45 (by decide) ?_
                refine zg_iinc1 X dX3_findBelow_46 (by decide) rfl ?_
                refine zg_goto X dX3_findBelow_49 (tgt := 18) (by decide) ?_
                exact zg_lv (by exact ⟨rfl, rfl, rfl, rfl, trivial⟩) (ih18 (j + 1) _ (by omega) (by omega) (by rw [fN, ← hf2]; simp [belowF, c_24, c_33]))
        exact zg_lv (by exact ⟨rfl, rfl, rfl, rfl, trivial⟩) (LP18 (σ.1 1 + 1) 0 _ (by omega) (by omega) rfl)
  exact zg_lv (by exact ⟨rfl, rfl, rfl, trivial⟩) (LP7 ((σ.1 1 - 1) + 1) 0 _ (by omega) (by omega) rfl)

set_option maxHeartbeats 4000000 in
set_option maxRecDepth 100000 in
theorem k_X3_findAllMembers (l : Launch) (D : va_G) (ad : Nat → Nat) (T : Nat → ClassId) (σ : ZS) (hB0 : zBd σ)  : zM l yX3_findAllMembers wsX3_findAllMembers ({ frames := 3, cells := 0, slots := 0, locals := 65 }) D (zT T) [.ref (ad 2)] (wC ad T σ) 0 0 (qV D (zT T) (fun w => w = wC ad T (reAll σ))) := by
  have hB1 := hB0
  obtain ⟨b0, b1, b2, b3, b4, b5⟩ := hB1
  refine zg_of (cc := cX3_findAllMembers) (maxL := 5) (ret := none) (by decide) rfl (Nat.le_of_ble_eq_true rfl) (fun p e s m below meth c A hin hr X => ?_)
  have X : zC p s m _ meth c cX3_findAllMembers 5 wsX3_findAllMembers RX3 D (zT T) A := X
  have f3 : ∀ w ∈ u_ws RX3 TX3 5, w ∈ wsX3_findAllMembers := by decide +kernel
  have l47i : Cond.initialized RX6 ∈ wsX3_findAllMembers := by decide +kernel
  have l47s : Cond.static yX6_contains ∈ wsX3_findAllMembers := by decide +kernel
  have l15 : Cond.fieldLink RX3 15 "Recertify$Groups" "direct" "[I" ∈ wsX3_findAllMembers := by decide +kernel
  have l21 : Cond.fieldLink RX3 21 "Recertify$Groups" "all" "[I" ∈ wsX3_findAllMembers := by decide +kernel
  have l24 : Cond.fieldLink RX3 24 "Recertify$Groups" "count" "I" ∈ wsX3_findAllMembers := by decide +kernel
  refine zg_iconst X (v := 0) dX3_findAllMembers_0 (by decide) ?_
  refine zg_istore_n X dX3_findAllMembers_1 (by decide) ?_
  have LP2 : ∀ (fu : Nat) (i : Nat), σ.1 1 + 1 ≤ i + fu → i ≤ σ.1 1 → zG p l e (headSpec wsX3_findAllMembers ({ frames := 3, cells := 0, slots := 0, locals := 65 })).room s m [.ref (ad 2)].toArray below meth c D 5 A 0 0 (MQ below (qV D (zT T) (fun w => w = wC ad T (reAll σ)) A) [.ref (ad 2)].toArray s 0 0 A) (wC ad T (uA σ 20 (fN (allF σ) (σ.2.2 20) i))) 2 [(0, .ref (ad 2)), (1, .int (nI i))] [] := by
    intro fu
    induction fu with
    | zero => intro i hfu hii ; exact absurd hfu (by omega)
    | succ fu ih2 =>
      intro i hfu hii
      refine zg_iload_n X dX3_findAllMembers_2 rfl ?_
      refine zg_aload_n X dX3_findAllMembers_3 rfl ?_
      refine rg_Groups_count X f3 l24 dX3_findAllMembers_4 ?_
      refine zg_icmpn_ge X dX3_findAllMembers_7 (tgt := 68) (by decide) (a := i) (b := σ.1 1) (by omega) (by omega) (fun c_7 => ?_) (fun c_7 => ?_)
      · skip
        exact zg_vret X hr dX3_findAllMembers_68 (Nat.le_of_ble_eq_true rfl) (Nat.le_of_ble_eq_true rfl) (by rw [show i = σ.1 1 by omega]; rfl)
      · skip
        refine zg_aload_n X dX3_findAllMembers_10 rfl ?_
        refine zg_iload_n X dX3_findAllMembers_11 rfl ?_
        refine zg_callVi X (k_X3_findBelow l D ad T (uA σ 20 (fN (allF σ) (σ.2.2 20) i)) hB0 i (show i < σ.1 1 by omega)) zFr.rf gX3_findAllMembers_X3_findBelow rfl rfl rfl qv_X3_findBelow rfl ⟨Nat.le_of_ble_eq_true rfl, Nat.le_of_ble_eq_true rfl⟩ (q0 := 2) (ci := 5) rfl rfl rfl (Nat.le_of_ble_eq_true rfl) ⟨Nat.le_of_ble_eq_true rfl, Nat.le_of_ble_eq_true rfl⟩ dX3_findAllMembers_12 (fun r w1 hz9 => ?_)
        obtain ⟨rfl, rfl⟩ := hz9
        refine zg_top (v' := belowI σ i) rfl ?_
        refine zg_istore_n X dX3_findAllMembers_15 (by decide) ?_
        refine zg_iconst X (v := 0) dX3_findAllMembers_16 (by decide) ?_
        refine zg_istore_n X dX3_findAllMembers_17 (by decide) ?_
        refine zg_iconst X (v := 0) dX3_findAllMembers_18 (by decide) ?_
        refine zg_istore X dX3_findAllMembers_19 (by decide) ?_
        have LP21 : ∀ (fu : Nat) (j : Nat) (acc : Int32), σ.1 1 + 1 ≤ j + fu → j ≤ σ.1 1 → acc = fN (memF σ (belowI σ i)) 0 j → zG p l e (headSpec wsX3_findAllMembers ({ frames := 3, cells := 0, slots := 0, locals := 65 })).room s m [.ref (ad 2)].toArray below meth c D 5 A 0 0 (MQ below (qV D (zT T) (fun w => w = wC ad T (reAll σ)) A) [.ref (ad 2)].toArray s 0 0 A) (wC ad T (uA σ 20 (fN (allF σ) (σ.2.2 20) i))) 21 [(0, .ref (ad 2)), (1, .int (nI i)), (2, .int (belowI σ i)), (3, .int acc), (4, .int (nI j))] [] := by
          intro fu
          induction fu with
          | zero => intro j acc hfu hij _; exact absurd hfu (by omega)
          | succ fu ih21 =>
            intro j acc hfu hij hacc
            refine zg_iload X dX3_findAllMembers_21 rfl ?_
            refine zg_aload_n X dX3_findAllMembers_23 rfl ?_
            refine rg_Groups_count X f3 l24 dX3_findAllMembers_24 ?_
            refine zg_icmpn_ge X dX3_findAllMembers_27 (tgt := 55) (by decide) (a := j) (b := σ.1 1) (by omega) (by omega) (fun c_27 => ?_) (fun c_27 => ?_)
            · skip
              refine zg_aload_n X dX3_findAllMembers_55 rfl ?_
              refine rg_Groups_all X f3 l21 dX3_findAllMembers_56 ?_
              refine zg_iload_n X dX3_findAllMembers_59 rfl ?_
              refine zg_iload_n X dX3_findAllMembers_60 rfl ?_
              refine rsC_all X (by omega) dX3_findAllMembers_61 ?_
              refine zg_iinc1 X dX3_findAllMembers_62 (by decide) rfl ?_
              refine zg_goto X dX3_findAllMembers_65 (tgt := 2) (by decide) ?_
              refine zg_w (w' := wC ad T (uA σ 20 (fN (allF σ) (σ.2.2 20) (i + 1)))) (by rw [hacc, show j = σ.1 1 by omega]; rfl) ?_
              exact zg_lv (by exact ⟨rfl, rfl, trivial⟩) (ih2 (i + 1) (by omega) (by omega))
            · skip
              refine zg_iload_n X dX3_findAllMembers_30 rfl ?_
              refine zg_iload X dX3_findAllMembers_31 rfl ?_
              refine zg_callSNi X (k_X6_contains l D ad T _ (belowI σ i) j) zFr.rf gX3_findAllMembers_X6_contains_n47 (host := RX6) (by decide +kernel) l47s l47i rfl rfl rfl qd_X6_contains rfl ⟨Nat.le_of_ble_eq_true rfl, Nat.le_of_ble_eq_true rfl⟩ rfl (Nat.le_of_ble_eq_true rfl) ⟨Nat.le_of_ble_eq_true rfl, Nat.le_of_ble_eq_true rfl⟩ dX3_findAllMembers_33 (fun r w1 hz9 => ?_)
              obtain ⟨rfl, rfl⟩ := hz9
              refine zg_if_eqb X dX3_findAllMembers_36 (tgt := 49) (by decide) (fun c_36 => ?_) (fun c_36 => ?_)
              · skip
                refine zg_iinc1 X dX3_findAllMembers_49 (by decide) rfl ?_
                refine zg_goto X dX3_findAllMembers_52 (tgt := 21) (by decide) ?_
                exact zg_lv (by exact ⟨rfl, rfl, rfl, rfl, rfl, trivial⟩) (ih21 (j + 1) _ (by omega) (by omega) (by rw [fN, ← hacc]; simp [memF, uA, va_up, c_27, c_36]))
              · skip
                refine zg_iload_n X dX3_findAllMembers_39 rfl ?_
                refine zg_aload_n X dX3_findAllMembers_40 rfl ?_
                refine rg_Groups_direct X f3 l15 dX3_findAllMembers_41 ?_
                refine zg_iload X dX3_findAllMembers_44 rfl ?_
                refine rlC_direct X (by omega) dX3_findAllMembers_46 ?_
                refine zg_ior X dX3_findAllMembers_47 ?_
                refine zg_istore_n X dX3_findAllMembers_48 (by decide) ?_
                refine zg_iinc1 X dX3_findAllMembers_49 (by decide) rfl ?_
                refine zg_goto X dX3_findAllMembers_52 (tgt := 21) (by decide) ?_
                exact zg_lv (by exact ⟨rfl, rfl, rfl, rfl, rfl, trivial⟩) (ih21 (j + 1) _ (by omega) (by omega) (by rw [fN, ← hacc]; simp [memF, uA, va_up, c_27, c_36]))
        exact zg_lv (by exact ⟨rfl, rfl, rfl, rfl, rfl, trivial⟩) (LP21 (σ.1 1 + 1) 0 _ (by omega) (by omega) rfl)
  refine zg_w (w' := wC ad T (uA σ 20 (fN (allF σ) (σ.2.2 20) 0))) rfl ?_
  exact zg_lv (by exact ⟨rfl, rfl, trivial⟩) (LP2 (σ.1 1 + 1) 0 (by omega) (by omega))

set_option maxHeartbeats 4000000 in
set_option maxRecDepth 100000 in
theorem k_X3_setDirect (l : Launch) (D : va_G) (ad : Nat → Nat) (T : Nat → ClassId) (σ : ZS) (hB0 : zBd σ) (g : Nat) (hg : g < 8) (x : Int32) : zM l yX3_setDirect wsX3_setDirect ({ frames := 4, cells := 0, slots := 0, locals := 89 }) D (zT T) [.ref (ad 2), .int (nI g), .int x] (wC ad T σ) 0 0 (qI D (zT T) (fun r w => r = bcnt x ∧ w = wC ad T (reAll (uA σ 4 (upd (σ.2.2 4) g x))))) := by
  have hB1 := hB0
  obtain ⟨b0, b1, b2, b3, b4, b5⟩ := hB1
  refine zg_of (cc := cX3_setDirect) (maxL := 3) (ret := (some .int)) (by decide) rfl (Nat.le_of_ble_eq_true rfl) (fun p e s m below meth c A hin hr X => ?_)
  have X : zC p s m _ meth c cX3_setDirect 3 wsX3_setDirect RX3 D (zT T) A := X
  have f3 : ∀ w ∈ u_ws RX3 TX3 5, w ∈ wsX3_setDirect := by decide +kernel
  have l15 : Cond.fieldLink RX3 15 "Recertify$Groups" "direct" "[I" ∈ wsX3_setDirect := by decide +kernel
  refine zg_aload_n X dX3_setDirect_0 rfl ?_
  refine rg_Groups_direct X f3 l15 dX3_setDirect_1 ?_
  refine zg_iload_n X dX3_setDirect_4 rfl ?_
  refine zg_iload_n X dX3_setDirect_5 rfl ?_
  refine rsC_direct X (by omega) dX3_setDirect_6 ?_
  refine zg_aload_n X dX3_setDirect_7 rfl ?_
  refine zg_callVv X (k_X3_findAllMembers l D ad T (uA σ 4 (upd (σ.2.2 4) g x)) hB0) zFr.rf gX3_setDirect_X3_findAllMembers rfl rfl rfl qv_X3_findAllMembers rfl ⟨Nat.le_of_ble_eq_true rfl, Nat.le_of_ble_eq_true rfl⟩ (q0 := 2) (ci := 5) rfl rfl rfl (Nat.le_of_ble_eq_true rfl) ⟨Nat.le_of_ble_eq_true rfl, Nat.le_of_ble_eq_true rfl⟩ dX3_setDirect_8 (fun w1 hz9 => ?_)
  obtain rfl := hz9
  refine zg_iload_n X dX3_setDirect_11 rfl ?_
  refine zg_callSi X (k_J6_bitCount_0f7a4 l D ad T _ x) zFr.rf gX3_setDirect_J6_bitCount_0f7a4 rfl rfl rfl qd_J6_bitCount_0f7a4 rfl ⟨Nat.le_of_ble_eq_true rfl, Nat.le_of_ble_eq_true rfl⟩ rfl (Nat.le_of_ble_eq_true rfl) ⟨Nat.le_of_ble_eq_true rfl, Nat.le_of_ble_eq_true rfl⟩ dX3_setDirect_12 (fun r w1 hz9 => ?_)
  obtain ⟨rfl, rfl⟩ := hz9
  exact zg_iret X hr dX3_setDirect_15 (Nat.le_of_ble_eq_true rfl) (Nat.le_of_ble_eq_true rfl) (⟨rfl, rfl⟩)

set_option maxHeartbeats 4000000 in
set_option maxRecDepth 100000 in
theorem k_X3_addNested (l : Launch) (D : va_G) (ad : Nat → Nat) (T : Nat → ClassId) (σ : ZS) (hB0 : zBd σ) (g h : Nat) (hg : g < 8) : zM l yX3_addNested wsX3_addNested ({ frames := 4, cells := 0, slots := 0, locals := 89 }) D (zT T) [.ref (ad 2), .int (nI g), .int (nI h)] (wC ad T σ) 0 0 (qI D (zT T) (fun r w => r = bcnt (σ.2.2 5 g ||| bt1 h) ∧ w = wC ad T (reAll (uA σ 5 (upd (σ.2.2 5) g (σ.2.2 5 g ||| bt1 h)))))) := by
  have hB1 := hB0
  obtain ⟨b0, b1, b2, b3, b4, b5⟩ := hB1
  refine zg_of (cc := cX3_addNested) (maxL := 3) (ret := (some .int)) (by decide) rfl (Nat.le_of_ble_eq_true rfl) (fun p e s m below meth c A hin hr X => ?_)
  have X : zC p s m _ meth c cX3_addNested 3 wsX3_addNested RX3 D (zT T) A := X
  have f3 : ∀ w ∈ u_ws RX3 TX3 5, w ∈ wsX3_addNested := by decide +kernel
  have l41i : Cond.initialized RX6 ∈ wsX3_addNested := by decide +kernel
  have l41s : Cond.static yX6_bit ∈ wsX3_addNested := by decide +kernel
  have l18 : Cond.fieldLink RX3 18 "Recertify$Groups" "nested" "[I" ∈ wsX3_addNested := by decide +kernel
  refine zg_aload_n X dX3_addNested_0 rfl ?_
  refine rg_Groups_nested X f3 l18 dX3_addNested_1 ?_
  refine zg_iload_n X dX3_addNested_4 rfl ?_
  refine zg_dup2 X dX3_addNested_5 rfl rfl ?_
  refine rlC_nested X (by omega) dX3_addNested_6 ?_
  refine zg_iload_n X dX3_addNested_7 rfl ?_
  refine zg_callSNi X (k_X6_bit l D ad T _ h) zFr.rf gX3_addNested_X6_bit_n41 (host := RX6) (by decide +kernel) l41s l41i rfl rfl rfl qd_X6_bit rfl ⟨Nat.le_of_ble_eq_true rfl, Nat.le_of_ble_eq_true rfl⟩ rfl (Nat.le_of_ble_eq_true rfl) ⟨Nat.le_of_ble_eq_true rfl, Nat.le_of_ble_eq_true rfl⟩ dX3_addNested_8 (fun r w1 hz9 => ?_)
  obtain ⟨rfl, rfl⟩ := hz9
  refine zg_ior X dX3_addNested_11 ?_
  refine rsC_nested X (by omega) dX3_addNested_12 ?_
  refine zg_aload_n X dX3_addNested_13 rfl ?_
  refine zg_callVv X (k_X3_findAllMembers l D ad T (uA σ 5 (upd (σ.2.2 5) g (σ.2.2 5 g ||| bt1 h))) hB0) zFr.rf gX3_addNested_X3_findAllMembers rfl rfl rfl qv_X3_findAllMembers rfl ⟨Nat.le_of_ble_eq_true rfl, Nat.le_of_ble_eq_true rfl⟩ (q0 := 2) (ci := 5) rfl rfl rfl (Nat.le_of_ble_eq_true rfl) ⟨Nat.le_of_ble_eq_true rfl, Nat.le_of_ble_eq_true rfl⟩ dX3_addNested_14 (fun w1 hz9 => ?_)
  obtain rfl := hz9
  refine zg_aload_n X dX3_addNested_17 rfl ?_
  refine rg_Groups_nested X f3 l18 dX3_addNested_18 ?_
  refine zg_iload_n X dX3_addNested_21 rfl ?_
  refine rlC_nested X (by omega) dX3_addNested_22 ?_
  refine zg_top (v' := σ.2.2 5 g ||| bt1 h) (by simp [reAll, uA, va_up, upd]) ?_
  refine zg_callSi X (k_J6_bitCount_0f7a4 l D ad T _ _) zFr.rf gX3_addNested_J6_bitCount_0f7a4 rfl rfl rfl qd_J6_bitCount_0f7a4 rfl ⟨Nat.le_of_ble_eq_true rfl, Nat.le_of_ble_eq_true rfl⟩ rfl (Nat.le_of_ble_eq_true rfl) ⟨Nat.le_of_ble_eq_true rfl, Nat.le_of_ble_eq_true rfl⟩ dX3_addNested_23 (fun r w1 hz9 => ?_)
  obtain ⟨rfl, rfl⟩ := hz9
  exact zg_iret X hr dX3_addNested_26 (Nat.le_of_ble_eq_true rfl) (Nat.le_of_ble_eq_true rfl) (⟨rfl, rfl⟩)

set_option maxHeartbeats 4000000 in
set_option maxRecDepth 100000 in
theorem k_X3_walk0 (l : Launch) (D : va_G) (ad : Nat → Nat) (T : Nat → ClassId) (σ : ZS) (q : Nat) (x : Int32) (L : Nat) (hL : L + 0 = 9) : zM l yX3_walk wsX3_walk ({ frames := 0 + 2, cells := 0, slots := 0, locals := 30 * 0 + 60 }) D (zT T) [.ref (ad 12), .ref (ad 13), .int x, .int (nI q), .int (nI L)] (wC ad T σ) 0 0 (qI D (zT T) (fun r w => r = walkX σ q 0 x ∧ w = wC ad T σ)) := by
  refine zg_of (cc := cX3_walk) (maxL := 7) (ret := (some .int)) (by decide) rfl (Nat.le_of_ble_eq_true rfl) (fun p e s m below meth c A hin hr X => ?_)
  have X : zC p s m _ meth c cX3_walk 7 wsX3_walk RX3 D (zT T) A := X
  refine zg_iload X dX3_walk_0 rfl ?_
  refine zg_bipush X (v := 8) dX3_walk_2 (by decide) ?_
  refine zg_icmpn_gt X dX3_walk_4 (tgt := 17) (by decide) (a := L) (b := 8) (by omega) (by omega) (fun c_4 => ?_) (fun c_4 => absurd (show 8 < L by omega) c_4)
  refine zg_iconst X (v := 0) dX3_walk_17 (by decide) ?_
  exact zg_iret X hr dX3_walk_18 (Nat.le_of_ble_eq_true rfl) (Nat.le_of_ble_eq_true rfl) (⟨rfl, rfl⟩)

set_option maxHeartbeats 4000000 in
set_option maxRecDepth 100000 in
theorem k_X3_findWithin (l : Launch) (D : va_G) (ad : Nat → Nat) (T : Nat → ClassId) (σ : ZS) (hB0 : zBd σ) (q k : Nat) (hk : 1 ≤ k ∧ k ≤ 8) : zM l yX3_findWithin wsX3_findWithin ({ frames := 2, cells := 0, slots := 0, locals := 41 }) D (zT T) [.ref (ad 2), .int (nI q), .int (nI k)] (wC ad T σ) 0 0 (qI D (zT T) (fun r w => r = withI σ q (k - 1) ∧ w = wC ad T σ)) := by
  have hB1 := hB0
  obtain ⟨b0, b1, b2, b3, b4, b5⟩ := hB1
  refine zg_of (cc := cX3_findWithin) (maxL := 7) (ret := (some .int)) (by decide) rfl (Nat.le_of_ble_eq_true rfl) (fun p e s m below meth c A hin hr X => ?_)
  have X : zC p s m _ meth c cX3_findWithin 7 wsX3_findWithin RX3 D (zT T) A := X
  have f3 : ∀ w ∈ u_ws RX3 TX3 5, w ∈ wsX3_findWithin := by decide +kernel
  have l41i : Cond.initialized RX6 ∈ wsX3_findWithin := by decide +kernel
  have l41s : Cond.static yX6_bit ∈ wsX3_findWithin := by decide +kernel
  have l47i : Cond.initialized RX6 ∈ wsX3_findWithin := by decide +kernel
  have l47s : Cond.static yX6_contains ∈ wsX3_findWithin := by decide +kernel
  have l15 : Cond.fieldLink RX3 15 "Recertify$Groups" "direct" "[I" ∈ wsX3_findWithin := by decide +kernel
  have l18 : Cond.fieldLink RX3 18 "Recertify$Groups" "nested" "[I" ∈ wsX3_findWithin := by decide +kernel
  have l24 : Cond.fieldLink RX3 24 "Recertify$Groups" "count" "I" ∈ wsX3_findWithin := by decide +kernel
  refine zg_iconst X (v := 0) dX3_findWithin_0 (by decide) ?_
  refine zg_istore_n X dX3_findWithin_1 (by decide) ?_
  refine zg_iconst X (v := 0) dX3_findWithin_2 (by decide) ?_
  refine zg_istore X dX3_findWithin_3 (by decide) ?_
  have LP5 : ∀ (fu : Nat) (i : Nat) (acc : Int32), σ.1 1 + 1 ≤ i + fu → i ≤ σ.1 1 → acc = fN (wi0F σ q) 0 i → zG p l e (headSpec wsX3_findWithin ({ frames := 2, cells := 0, slots := 0, locals := 41 })).room s m [.ref (ad 2), .int (nI q), .int (nI k)].toArray below meth c D 7 A 0 0 (MQ below (qI D (zT T) (fun r w => r = withI σ q (k - 1) ∧ w = wC ad T σ) A) [.ref (ad 2), .int (nI q), .int (nI k)].toArray s 0 0 A) (wC ad T σ) 5 [(0, .ref (ad 2)), (1, .int (nI q)), (2, .int (nI k)), (3, .int acc), (4, .int (nI i))] [] := by
    intro fu
    induction fu with
    | zero => intro i acc hfu hii _; exact absurd hfu (by omega)
    | succ fu ih5 =>
      intro i acc hfu hii hacc
      refine zg_iload X dX3_findWithin_5 rfl ?_
      refine zg_aload_n X dX3_findWithin_7 rfl ?_
      refine rg_Groups_count X f3 l24 dX3_findWithin_8 ?_
      refine zg_icmpn_ge X dX3_findWithin_11 (tgt := 42) (by decide) (a := i) (b := σ.1 1) (by omega) (by omega) (fun c_11 => ?_) (fun c_11 => ?_)
      · skip
        refine zg_iconst X (v := 1) dX3_findWithin_42 (by decide) ?_
        refine zg_istore X dX3_findWithin_43 (by decide) ?_
        have LP45 : ∀ (fu : Nat) (u : Nat) (fnd : Int32), (k - 1) + 1 ≤ u + fu → u ≤ (k - 1) → fnd = fN (fun _ acc => fN (wi1F σ acc) acc (σ.1 1)) (fN (wi0F σ q) 0 (σ.1 1)) u → zG p l e (headSpec wsX3_findWithin ({ frames := 2, cells := 0, slots := 0, locals := 41 })).room s m [.ref (ad 2), .int (nI q), .int (nI k)].toArray below meth c D 7 A 0 0 (MQ below (qI D (zT T) (fun r w => r = withI σ q (k - 1) ∧ w = wC ad T σ) A) [.ref (ad 2), .int (nI q), .int (nI k)].toArray s 0 0 A) (wC ad T σ) 45 [(0, .ref (ad 2)), (1, .int (nI q)), (2, .int (nI k)), (3, .int fnd), (4, .int (nI (u + 1)))] [] := by
          intro fu
          induction fu with
          | zero => intro u fnd hfu hiu _; exact absurd hfu (by omega)
          | succ fu ih45 =>
            intro u fnd hfu hiu hfnd
            refine zg_iload X dX3_findWithin_45 rfl ?_
            refine zg_iload_n X dX3_findWithin_47 rfl ?_
            refine zg_icmpn_ge X dX3_findWithin_48 (tgt := 99) (by decide) (a := (u + 1)) (b := k) (by omega) (by omega) (fun c_48 => ?_) (fun c_48 => ?_)
            · skip
              refine zg_iload_n X dX3_findWithin_99 rfl ?_
              exact zg_iret X hr dX3_findWithin_100 (Nat.le_of_ble_eq_true rfl) (Nat.le_of_ble_eq_true rfl) (⟨by rw [hfnd, withI, show u = k - 1 by omega], rfl⟩)
            · skip
              refine zg_iload_n X dX3_findWithin_51 rfl ?_
              refine zg_istore X dX3_findWithin_52 (by decide) ?_
              refine zg_iconst X (v := 0) dX3_findWithin_54 (by decide) ?_
              refine zg_istore X dX3_findWithin_55 (by decide) ?_
              have LP57 : ∀ (fu : Nat) (j : Nat) (f2 : Int32), σ.1 1 + 1 ≤ j + fu → j ≤ σ.1 1 → f2 = fN (wi1F σ fnd) fnd j → zG p l e (headSpec wsX3_findWithin ({ frames := 2, cells := 0, slots := 0, locals := 41 })).room s m [.ref (ad 2), .int (nI q), .int (nI k)].toArray below meth c D 7 A 0 0 (MQ below (qI D (zT T) (fun r w => r = withI σ q (k - 1) ∧ w = wC ad T σ) A) [.ref (ad 2), .int (nI q), .int (nI k)].toArray s 0 0 A) (wC ad T σ) 57 [(0, .ref (ad 2)), (1, .int (nI q)), (2, .int (nI k)), (3, .int f2), (4, .int (nI (u + 1))), (5, .int fnd), (6, .int (nI j))] [] := by
                intro fu
                induction fu with
                | zero => intro j f2 hfu hij _; exact absurd hfu (by omega)
                | succ fu ih57 =>
                  intro j f2 hfu hij hf2
                  refine zg_iload X dX3_findWithin_57 rfl ?_
                  refine zg_aload_n X dX3_findWithin_59 rfl ?_
                  refine rg_Groups_count X f3 l24 dX3_findWithin_60 ?_
                  refine zg_icmpn_ge X dX3_findWithin_63 (tgt := 93) (by decide) (a := j) (b := σ.1 1) (by omega) (by omega) (fun c_63 => ?_) (fun c_63 => ?_)
                  · skip
                    refine zg_iinc1 X dX3_findWithin_93 (by decide) rfl ?_
                    refine zg_goto X dX3_findWithin_96 (tgt := 45) (by decide) ?_
                    exact zg_lv (by exact ⟨rfl, rfl, rfl, rfl, rfl, trivial⟩) (ih45 (u + 1) _ (by omega) (by omega) (by rw [fN, ← hfnd, hf2, show j = σ.1 1 by omega]))
                  · skip
                    refine zg_aload_n X dX3_findWithin_66 rfl ?_
                    refine rg_Groups_nested X f3 l18 dX3_findWithin_67 ?_
                    refine zg_iload X dX3_findWithin_70 rfl ?_
                    refine rlC_nested X (by omega) dX3_findWithin_72 ?_
                    refine zg_iload X dX3_findWithin_73 rfl ?_
                    refine zg_iand X dX3_findWithin_75 ?_
                    refine zg_if_eq X dX3_findWithin_76 (tgt := 87) (by decide) (fun c_76 => ?_) (fun c_76 => ?_)
                    · skip
                      refine zg_iinc1 X dX3_findWithin_87 (by decide) rfl ?_
                      refine zg_goto X dX3_findWithin_90 (tgt := 57) (by decide) ?_
                      exact zg_lv (by exact ⟨rfl, rfl, rfl, rfl, rfl, rfl, rfl, trivial⟩) (ih57 (j + 1) _ (by omega) (by omega) (by rw [fN, ← hf2]; simp [wi1F, c_63, c_76]))
                    · skip
                      refine zg_iload_n X dX3_findWithin_79 rfl ?_
                      refine zg_iload X dX3_findWithin_80 rfl ?_
                      refine zg_callSNi X (k_X6_bit l D ad T _ j) zFr.rf gX3_findWithin_X6_bit_n41 (host := RX6) (by decide +kernel) l41s l41i rfl rfl rfl qd_X6_bit rfl ⟨Nat.le_of_ble_eq_true rfl, Nat.le_of_ble_eq_true rfl⟩ rfl (Nat.le_of_ble_eq_true rfl) ⟨Nat.le_of_ble_eq_true rfl, Nat.le_of_ble_eq_true rfl⟩ dX3_findWithin_82 (fun r w1 hz9 => ?_)
                      obtain ⟨rfl, rfl⟩ := hz9
                      refine zg_ior X dX3_findWithin_85 ?_
                      refine zg_istore_n X dX3_findWithin_86 (by decide) ?_
                      refine zg_iinc1 X dX3_findWithin_87 (by decide) rfl ?_
                      refine zg_goto X dX3_findWithin_90 (tgt := 57) (by decide) ?_
                      exact zg_lv (by exact ⟨rfl, rfl, rfl, rfl, rfl, rfl, rfl, trivial⟩) (ih57 (j + 1) _ (by omega) (by omega) (by rw [fN, ← hf2]; simp [wi1F, c_63, c_76]))
              exact zg_lv (by exact ⟨rfl, rfl, rfl, rfl, rfl, rfl, rfl, trivial⟩) (LP57 (σ.1 1 + 1) 0 _ (by omega) (by omega) rfl)
        exact zg_lv (by exact ⟨rfl, rfl, rfl, rfl, rfl, trivial⟩) (LP45 ((k - 1) + 1) 0 _ (by omega) (by omega) (by rw [hacc, show i = σ.1 1 by omega]; rfl))
      · skip
        refine zg_aload_n X dX3_findWithin_14 rfl ?_
        refine rg_Groups_direct X f3 l15 dX3_findWithin_15 ?_
        refine zg_iload X dX3_findWithin_18 rfl ?_
        refine rlC_direct X (by omega) dX3_findWithin_20 ?_
        refine zg_iload_n X dX3_findWithin_21 rfl ?_
        refine zg_callSNi X (k_X6_contains l D ad T _ _ q) zFr.rf gX3_findWithin_X6_contains_n47 (host := RX6) (by decide +kernel) l47s l47i rfl rfl rfl qd_X6_contains rfl ⟨Nat.le_of_ble_eq_true rfl, Nat.le_of_ble_eq_true rfl⟩ rfl (Nat.le_of_ble_eq_true rfl) ⟨Nat.le_of_ble_eq_true rfl, Nat.le_of_ble_eq_true rfl⟩ dX3_findWithin_22 (fun r w1 hz9 => ?_)
        obtain ⟨rfl, rfl⟩ := hz9
        refine zg_if_eqb X dX3_findWithin_25 (tgt := 36) (by decide) (fun c_25 => ?_) (fun c_25 => ?_)
        · skip
          refine zg_iinc1 X dX3_findWithin_36 (by decide) rfl ?_
          refine zg_goto X dX3_findWithin_39 (tgt := 5) (by decide) ?_
          exact zg_lv (by exact ⟨rfl, rfl, rfl, rfl, rfl, trivial⟩) (ih5 (i + 1) _ (by omega) (by omega) (by rw [fN, ← hacc]; simp [wi0F, c_11, c_25]))
        · skip
          refine zg_iload_n X dX3_findWithin_28 rfl ?_
          refine zg_iload X dX3_findWithin_29 rfl ?_
          refine zg_callSNi X (k_X6_bit l D ad T _ i) zFr.rf gX3_findWithin_X6_bit_n41 (host := RX6) (by decide +kernel) l41s l41i rfl rfl rfl qd_X6_bit rfl ⟨Nat.le_of_ble_eq_true rfl, Nat.le_of_ble_eq_true rfl⟩ rfl (Nat.le_of_ble_eq_true rfl) ⟨Nat.le_of_ble_eq_true rfl, Nat.le_of_ble_eq_true rfl⟩ dX3_findWithin_31 (fun r w1 hz9 => ?_)
          obtain ⟨rfl, rfl⟩ := hz9
          refine zg_ior X dX3_findWithin_34 ?_
          refine zg_istore_n X dX3_findWithin_35 (by decide) ?_
          refine zg_iinc1 X dX3_findWithin_36 (by decide) rfl ?_
          refine zg_goto X dX3_findWithin_39 (tgt := 5) (by decide) ?_
          exact zg_lv (by exact ⟨rfl, rfl, rfl, rfl, rfl, trivial⟩) (ih5 (i + 1) _ (by omega) (by omega) (by rw [fN, ← hacc]; simp [wi0F, c_11, c_25]))
  exact zg_lv (by exact ⟨rfl, rfl, rfl, rfl, rfl, trivial⟩) (LP5 (σ.1 1 + 1) 0 _ (by omega) (by omega) rfl)

set_option maxHeartbeats 4000000 in
set_option maxRecDepth 100000 in
theorem k_X3_walkS (l : Launch) (D : va_G) (ad : Nat → Nat) (T : Nat → ClassId) (σ : ZS) (q d : Nat) (ihd : ∀ (x : Int32) (L : Nat), L + d = 9 → zM l yX3_walk wsX3_walk ({ frames := d + 2, cells := 0, slots := 0, locals := 30 * d + 60 }) D (zT T) [.ref (ad 12), .ref (ad 13), .int x, .int (nI q), .int (nI L)] (wC ad T σ) 0 0 (qI D (zT T) (fun r w => r = walkX σ q d x ∧ w = wC ad T σ))) (x : Int32) (L : Nat) (hL : L + (d + 1) = 9) : zM l yX3_walk wsX3_walk ({ frames := d + 1 + 2, cells := 0, slots := 0, locals := 30 * (d + 1) + 60 }) D (zT T) [.ref (ad 12), .ref (ad 13), .int x, .int (nI q), .int (nI L)] (wC ad T σ) 0 0 (qI D (zT T) (fun r w => r = walkX σ q (d + 1) x ∧ w = wC ad T σ)) := by
  refine zg_of (cc := cX3_walk) (maxL := 7) (ret := (some .int)) (by decide) rfl (Nat.le_of_ble_eq_true rfl) (fun p e s m below meth c A hin hr X => ?_)
  have X : zC p s m _ meth c cX3_walk 7 wsX3_walk RX3 D (zT T) A := X
  have l47i : Cond.initialized RX6 ∈ wsX3_walk := by decide +kernel
  have l47s : Cond.static yX6_contains ∈ wsX3_walk := by decide +kernel
  refine zg_iload X dX3_walk_0 rfl ?_
  refine zg_bipush X (v := 8) dX3_walk_2 (by decide) ?_
  refine zg_icmpn_gt X dX3_walk_4 (tgt := 17) (by decide) (a := L) (b := 8) (by omega) (by omega) (fun c_4 => absurd c_4 (by omega)) (fun c_4 => ?_)
  refine zg_iload_n X dX3_walk_7 rfl ?_
  refine zg_if_lt X dX3_walk_8 (tgt := 17) (by decide) (fun c_8 => ?_) (fun c_8 => ?_)
  · skip
    refine zg_iconst X (v := 0) dX3_walk_17 (by decide) ?_
    exact zg_iret X hr dX3_walk_18 (Nat.le_of_ble_eq_true rfl) (Nat.le_of_ble_eq_true rfl) (⟨(walkX_f (pIn_f1 c_8)).symm, rfl⟩)
  · skip
    refine zg_iload_n X dX3_walk_11 rfl ?_
    refine zg_bipush X (v := 8) dX3_walk_12 (by decide) ?_
    refine zg_icmp_lt X dX3_walk_14 (tgt := 19) (by decide) (fun c_14 => ?_) (fun c_14 => ?_)
    · skip
      obtain ⟨g, hg, rfl⟩ : zIdx x 8 := pIn_idx (n := 8) (by decide) (pIn_t c_8 (fun h => zi_lt.mp c_14 h))
      refine zg_aload_n X dX3_walk_19 rfl ?_
      refine zg_iload_n X dX3_walk_20 rfl ?_
      refine rlC_direct X (by omega) dX3_walk_21 ?_
      refine zg_iload_n X dX3_walk_22 rfl ?_
      refine zg_callSNi X (k_X6_contains l D ad T _ _ q) zFr.rf gX3_walk_X6_contains_n47 (host := RX6) (by decide +kernel) l47s l47i rfl rfl rfl qd_X6_contains rfl ⟨by change 1 + 1 ≤ d + 1 + 2; omega, by change 8 + (2 + 11) + 20 ≤ 30 * (d + 1) + 60; omega⟩ rfl (Nat.le_of_ble_eq_true rfl) ⟨Nat.le_of_ble_eq_true rfl, Nat.le_of_ble_eq_true rfl⟩ dX3_walk_23 (fun r w1 hz9 => ?_)
      obtain ⟨rfl, rfl⟩ := hz9
      refine zg_if_eqb X dX3_walk_26 (tgt := 33) (by decide) (fun c_26 => ?_) (fun c_26 => ?_)
      · skip
        refine zg_iconst X (v := 0) dX3_walk_33 (by decide) ?_
        refine zg_istore X dX3_walk_34 (by decide) ?_
        refine zg_iconst X (v := 0) dX3_walk_36 (by decide) ?_
        refine zg_istore X dX3_walk_37 (by decide) ?_
        have LP39 : ∀ (fu : Nat) (i : Nat) (acc : Int32), 8 + 1 ≤ i + fu → i ≤ 8 → acc = fN (fun i acc => if hB (σ.2.2 5 g) i then acc + walkX σ q d (nI i) else acc) (bI (hB (σ.2.2 4 g) q)) i → zG p l e (headSpec wsX3_walk ({ frames := d + 1 + 2, cells := 0, slots := 0, locals := 30 * (d + 1) + 60 })).room s m [.ref (ad 12), .ref (ad 13), .int (nI g), .int (nI q), .int (nI L)].toArray below meth c D 7 A 0 0 (MQ below (qI D (zT T) (fun r w => r = walkX σ q (d + 1) (nI g) ∧ w = wC ad T σ) A) [.ref (ad 12), .ref (ad 13), .int (nI g), .int (nI q), .int (nI L)].toArray s 0 0 A) (wC ad T σ) 39 [(0, .ref (ad 12)), (1, .ref (ad 13)), (2, .int (nI g)), (3, .int (nI q)), (4, .int (nI L)), (5, .int acc), (6, .int (nI i))] [] := by
          intro fu
          induction fu with
          | zero => intro i acc hfu hii _; exact absurd hfu (by omega)
          | succ fu ih39 =>
            intro i acc hfu hii hacc
            refine zg_iload X dX3_walk_39 rfl ?_
            refine zg_bipush X (v := 8) dX3_walk_41 (by decide) ?_
            refine zg_icmpn_ge X dX3_walk_43 (tgt := 80) (by decide) (a := i) (b := 8) (by omega) (by omega) (fun c_43 => ?_) (fun c_43 => ?_)
            · skip
              refine zg_iload X dX3_walk_80 rfl ?_
              exact zg_iret X hr dX3_walk_82 (Nat.le_of_ble_eq_true rfl) (Nat.le_of_ble_eq_true rfl) (⟨by rw [hacc, walkX_t hg, show i = 8 by omega], rfl⟩)
            · skip
              refine zg_aload_n X dX3_walk_46 rfl ?_
              refine zg_iload_n X dX3_walk_47 rfl ?_
              refine rlC_nested X (by omega) dX3_walk_48 ?_
              refine zg_iload X dX3_walk_49 rfl ?_
              refine zg_callSNi X (k_X6_contains l D ad T _ _ i) zFr.rf gX3_walk_X6_contains_n47 (host := RX6) (by decide +kernel) l47s l47i rfl rfl rfl qd_X6_contains rfl ⟨by change 1 + 1 ≤ d + 1 + 2; omega, by change 8 + (2 + 11) + 20 ≤ 30 * (d + 1) + 60; omega⟩ rfl (Nat.le_of_ble_eq_true rfl) ⟨Nat.le_of_ble_eq_true rfl, Nat.le_of_ble_eq_true rfl⟩ dX3_walk_51 (fun r w1 hz9 => ?_)
              obtain ⟨rfl, rfl⟩ := hz9
              refine zg_if_eqb X dX3_walk_54 (tgt := 74) (by decide) (fun c_54 => ?_) (fun c_54 => ?_)
              · skip
                refine zg_iinc1 X dX3_walk_74 (by decide) rfl ?_
                refine zg_goto X dX3_walk_77 (tgt := 39) (by decide) ?_
                exact zg_lv (by exact ⟨rfl, rfl, rfl, rfl, rfl, rfl, rfl, trivial⟩) (ih39 (i + 1) _ (by omega) (by omega) (by rw [fN, ← hacc]; simp [c_43, c_54]))
              · skip
                refine zg_iload X dX3_walk_57 rfl ?_
                refine zg_aload_n X dX3_walk_59 rfl ?_
                refine zg_aload_n X dX3_walk_60 rfl ?_
                refine zg_iload X dX3_walk_61 rfl ?_
                refine zg_iload_n X dX3_walk_63 rfl ?_
                refine zg_iload X dX3_walk_64 rfl ?_
                refine zg_iconst X (v := 1) dX3_walk_66 (by decide) ?_
                refine zg_iadd X dX3_walk_67 ?_
                refine zg_top (nI_1 _) ?_
                refine zg_callSi X (ihd (nI i) (L + 1) (by omega)) zFr.rf gX3_walk_X3_walk rfl rfl rfl qd_X3_walk rfl ⟨by change d + 2 + 1 ≤ d + 1 + 2; omega, by change 8 + (7 + 11) + (30 * d + 60) ≤ 30 * (d + 1) + 60; omega⟩ rfl (Nat.le_of_ble_eq_true rfl) ⟨Nat.le_of_ble_eq_true rfl, Nat.le_of_ble_eq_true rfl⟩ dX3_walk_68 (fun r w1 hz9 => ?_)
                obtain ⟨rfl, rfl⟩ := hz9
                refine zg_iadd X dX3_walk_71 ?_
                refine zg_istore X dX3_walk_72 (by decide) ?_
                refine zg_iinc1 X dX3_walk_74 (by decide) rfl ?_
                refine zg_goto X dX3_walk_77 (tgt := 39) (by decide) ?_
                exact zg_lv (by exact ⟨rfl, rfl, rfl, rfl, rfl, rfl, rfl, trivial⟩) (ih39 (i + 1) _ (by omega) (by omega) (by rw [fN, ← hacc]; simp [c_43, c_54]))
        exact zg_lv (by exact ⟨rfl, rfl, rfl, rfl, rfl, rfl, rfl, trivial⟩) (LP39 (8 + 1) 0 _ (by omega) (by omega) (by first | exact (bI_f c_26).symm | exact (bI_t c_26).symm))
      · skip
        refine zg_iconst X (v := 1) dX3_walk_29 (by decide) ?_
        refine zg_goto X dX3_walk_30 (tgt := 34) (by decide) ?_
        refine zg_istore X dX3_walk_34 (by decide) ?_
        refine zg_iconst X (v := 0) dX3_walk_36 (by decide) ?_
        refine zg_istore X dX3_walk_37 (by decide) ?_
        have LP39 : ∀ (fu : Nat) (i : Nat) (acc : Int32), 8 + 1 ≤ i + fu → i ≤ 8 → acc = fN (fun i acc => if hB (σ.2.2 5 g) i then acc + walkX σ q d (nI i) else acc) (bI (hB (σ.2.2 4 g) q)) i → zG p l e (headSpec wsX3_walk ({ frames := d + 1 + 2, cells := 0, slots := 0, locals := 30 * (d + 1) + 60 })).room s m [.ref (ad 12), .ref (ad 13), .int (nI g), .int (nI q), .int (nI L)].toArray below meth c D 7 A 0 0 (MQ below (qI D (zT T) (fun r w => r = walkX σ q (d + 1) (nI g) ∧ w = wC ad T σ) A) [.ref (ad 12), .ref (ad 13), .int (nI g), .int (nI q), .int (nI L)].toArray s 0 0 A) (wC ad T σ) 39 [(0, .ref (ad 12)), (1, .ref (ad 13)), (2, .int (nI g)), (3, .int (nI q)), (4, .int (nI L)), (5, .int acc), (6, .int (nI i))] [] := by
          intro fu
          induction fu with
          | zero => intro i acc hfu hii _; exact absurd hfu (by omega)
          | succ fu ih39 =>
            intro i acc hfu hii hacc
            refine zg_iload X dX3_walk_39 rfl ?_
            refine zg_bipush X (v := 8) dX3_walk_41 (by decide) ?_
            refine zg_icmpn_ge X dX3_walk_43 (tgt := 80) (by decide) (a := i) (b := 8) (by omega) (by omega) (fun c_43 => ?_) (fun c_43 => ?_)
            · skip
              refine zg_iload X dX3_walk_80 rfl ?_
              exact zg_iret X hr dX3_walk_82 (Nat.le_of_ble_eq_true rfl) (Nat.le_of_ble_eq_true rfl) (⟨by rw [hacc, walkX_t hg, show i = 8 by omega], rfl⟩)
            · skip
              refine zg_aload_n X dX3_walk_46 rfl ?_
              refine zg_iload_n X dX3_walk_47 rfl ?_
              refine rlC_nested X (by omega) dX3_walk_48 ?_
              refine zg_iload X dX3_walk_49 rfl ?_
              refine zg_callSNi X (k_X6_contains l D ad T _ _ i) zFr.rf gX3_walk_X6_contains_n47 (host := RX6) (by decide +kernel) l47s l47i rfl rfl rfl qd_X6_contains rfl ⟨by change 1 + 1 ≤ d + 1 + 2; omega, by change 8 + (2 + 11) + 20 ≤ 30 * (d + 1) + 60; omega⟩ rfl (Nat.le_of_ble_eq_true rfl) ⟨Nat.le_of_ble_eq_true rfl, Nat.le_of_ble_eq_true rfl⟩ dX3_walk_51 (fun r w1 hz9 => ?_)
              obtain ⟨rfl, rfl⟩ := hz9
              refine zg_if_eqb X dX3_walk_54 (tgt := 74) (by decide) (fun c_54 => ?_) (fun c_54 => ?_)
              · skip
                refine zg_iinc1 X dX3_walk_74 (by decide) rfl ?_
                refine zg_goto X dX3_walk_77 (tgt := 39) (by decide) ?_
                exact zg_lv (by exact ⟨rfl, rfl, rfl, rfl, rfl, rfl, rfl, trivial⟩) (ih39 (i + 1) _ (by omega) (by omega) (by rw [fN, ← hacc]; simp [c_43, c_54]))
              · skip
                refine zg_iload X dX3_walk_57 rfl ?_
                refine zg_aload_n X dX3_walk_59 rfl ?_
                refine zg_aload_n X dX3_walk_60 rfl ?_
                refine zg_iload X dX3_walk_61 rfl ?_
                refine zg_iload_n X dX3_walk_63 rfl ?_
                refine zg_iload X dX3_walk_64 rfl ?_
                refine zg_iconst X (v := 1) dX3_walk_66 (by decide) ?_
                refine zg_iadd X dX3_walk_67 ?_
                refine zg_top (nI_1 _) ?_
                refine zg_callSi X (ihd (nI i) (L + 1) (by omega)) zFr.rf gX3_walk_X3_walk rfl rfl rfl qd_X3_walk rfl ⟨by change d + 2 + 1 ≤ d + 1 + 2; omega, by change 8 + (7 + 11) + (30 * d + 60) ≤ 30 * (d + 1) + 60; omega⟩ rfl (Nat.le_of_ble_eq_true rfl) ⟨Nat.le_of_ble_eq_true rfl, Nat.le_of_ble_eq_true rfl⟩ dX3_walk_68 (fun r w1 hz9 => ?_)
                obtain ⟨rfl, rfl⟩ := hz9
                refine zg_iadd X dX3_walk_71 ?_
                refine zg_istore X dX3_walk_72 (by decide) ?_
                refine zg_iinc1 X dX3_walk_74 (by decide) rfl ?_
                refine zg_goto X dX3_walk_77 (tgt := 39) (by decide) ?_
                exact zg_lv (by exact ⟨rfl, rfl, rfl, rfl, rfl, rfl, rfl, trivial⟩) (ih39 (i + 1) _ (by omega) (by omega) (by rw [fN, ← hacc]; simp [c_43, c_54]))
        exact zg_lv (by exact ⟨rfl, rfl, rfl, rfl, rfl, rfl, rfl, trivial⟩) (LP39 (8 + 1) 0 _ (by omega) (by omega) (by first | exact (bI_f c_26).symm | exact (bI_t c_26).symm))
    · skip
      refine zg_iconst X (v := 0) dX3_walk_17 (by decide) ?_
      exact zg_iret X hr dX3_walk_18 (Nat.le_of_ble_eq_true rfl) (Nat.le_of_ble_eq_true rfl) (⟨(walkX_f (pIn_f2 (zi_le.mpr c_14))).symm, rfl⟩)


theorem k_X3_walk (l : Launch) (D : va_G) (ad : Nat → Nat) (T : Nat → ClassId) (σ : ZS) (hB0 : zBd σ) (q : Nat) : ∀ (d : Nat) (x : Int32) (L : Nat), L + d = 9 → zM l yX3_walk wsX3_walk ({ frames := d + 2, cells := 0, slots := 0, locals := 30 * d + 60 }) D (zT T) [.ref (ad 12), .ref (ad 13), .int x, .int (nI q), .int (nI L)] (wC ad T σ) 0 0 (qI D (zT T) (fun r w => r = walkX σ q d x ∧ w = wC ad T σ)) := by
  intro d
  induction d with
  | zero => exact fun x L hL => k_X3_walk0 l D ad T σ q x L hL
  | succ d ih => exact fun x L hL => k_X3_walkS l D ad T σ q d ih x L hL

set_option maxHeartbeats 4000000 in
set_option maxRecDepth 100000 in
theorem k_X3_countPaths (l : Launch) (D : va_G) (ad : Nat → Nat) (T : Nat → ClassId) (σ : ZS) (hB0 : zBd σ) (x : Int32) (q : Nat) : zM l yX3_countPaths wsX3_countPaths ({ frames := 11, cells := 0, slots := 0, locals := 326 }) D (zT T) [.ref (ad 2), .int x, .int (nI q)] (wC ad T σ) 0 0 (qI D (zT T) (fun r w => r = walkX σ q 8 x ∧ w = wC ad T σ)) := by
  have hB1 := hB0
  obtain ⟨b0, b1, b2, b3, b4, b5⟩ := hB1
  refine zg_of (cc := cX3_countPaths) (maxL := 3) (ret := (some .int)) (by decide) rfl (Nat.le_of_ble_eq_true rfl) (fun p e s m below meth c A hin hr X => ?_)
  have X : zC p s m _ meth c cX3_countPaths 3 wsX3_countPaths RX3 D (zT T) A := X
  have f3 : ∀ w ∈ u_ws RX3 TX3 5, w ∈ wsX3_countPaths := by decide +kernel
  have l15 : Cond.fieldLink RX3 15 "Recertify$Groups" "direct" "[I" ∈ wsX3_countPaths := by decide +kernel
  have l18 : Cond.fieldLink RX3 18 "Recertify$Groups" "nested" "[I" ∈ wsX3_countPaths := by decide +kernel
  refine zg_aload_n X dX3_countPaths_0 rfl ?_
  refine rg_Groups_direct X f3 l15 dX3_countPaths_1 ?_
  refine zg_aload_n X dX3_countPaths_4 rfl ?_
  refine rg_Groups_nested X f3 l18 dX3_countPaths_5 ?_
  refine zg_iload_n X dX3_countPaths_8 rfl ?_
  refine zg_iload_n X dX3_countPaths_9 rfl ?_
  refine zg_iconst X (v := 1) dX3_countPaths_10 (by decide) ?_
  refine zg_callSi X (k_X3_walk l D ad T σ hB0 q 8 x 1 (by omega)) zFr.rf gX3_countPaths_X3_walk rfl rfl rfl qd_X3_walk rfl ⟨by change 8 + 2 + 1 ≤ 11; omega, by change 8 + (7 + 11) + (30 * 8 + 60) ≤ _; exact Nat.le_of_ble_eq_true rfl⟩ rfl (Nat.le_of_ble_eq_true rfl) ⟨Nat.le_of_ble_eq_true rfl, Nat.le_of_ble_eq_true rfl⟩ dX3_countPaths_11 (fun r w1 hz9 => ?_)
  obtain ⟨rfl, rfl⟩ := hz9
  exact zg_iret X hr dX3_countPaths_14 (Nat.le_of_ble_eq_true rfl) (Nat.le_of_ble_eq_true rfl) (⟨rfl, rfl⟩)

set_option maxHeartbeats 4000000 in
set_option maxRecDepth 100000 in
theorem k_X3_findOnPath (l : Launch) (D : va_G) (ad : Nat → Nat) (T : Nat → ClassId) (σ : ZS) (hB0 : zBd σ) (x : Int32) (q k t : Nat) (hk : t < k ∧ k ≤ 8) : zM l yX3_findOnPath wsX3_findOnPath ({ frames := 3, cells := 0, slots := 0, locals := 67 }) D (zT T) [.ref (ad 2), .int x, .int (nI q), .int (nI k), .int (nI t)] (wC ad T σ) 0 0 (qI D (zT T) (fun r w => r = onPath σ x q k t ∧ w = wC ad T σ)) := by
  have hB1 := hB0
  obtain ⟨b0, b1, b2, b3, b4, b5⟩ := hB1
  refine zg_of (cc := cX3_findOnPath) (maxL := 7) (ret := (some .int)) (by decide) rfl (Nat.le_of_ble_eq_true rfl) (fun p e s m below meth c A hin hr X => ?_)
  have X : zC p s m _ meth c cX3_findOnPath 7 wsX3_findOnPath RX3 D (zT T) A := X
  have f3 : ∀ w ∈ u_ws RX3 TX3 5, w ∈ wsX3_findOnPath := by decide +kernel
  have l59i : Cond.initialized RX6 ∈ wsX3_findOnPath := by decide +kernel
  have l59s : Cond.static yX6_findLowest ∈ wsX3_findOnPath := by decide +kernel
  have l18 : Cond.fieldLink RX3 18 "Recertify$Groups" "nested" "[I" ∈ wsX3_findOnPath := by decide +kernel
  have l24 : Cond.fieldLink RX3 24 "Recertify$Groups" "count" "I" ∈ wsX3_findOnPath := by decide +kernel
  refine zg_iload_n X dX3_findOnPath_0 rfl ?_
  refine zg_aload_n X dX3_findOnPath_1 rfl ?_
  refine zg_iload_n X dX3_findOnPath_2 rfl ?_
  refine zg_iload_n X dX3_findOnPath_3 rfl ?_
  refine zg_callVi X (k_X3_findWithin l D ad T _ hB0 q k (by omega)) zFr.rf gX3_findOnPath_X3_findWithin rfl rfl rfl qv_X3_findWithin rfl ⟨Nat.le_of_ble_eq_true rfl, Nat.le_of_ble_eq_true rfl⟩ (q0 := 2) (ci := 5) rfl rfl rfl (Nat.le_of_ble_eq_true rfl) ⟨Nat.le_of_ble_eq_true rfl, Nat.le_of_ble_eq_true rfl⟩ dX3_findOnPath_4 (fun r w1 hz9 => ?_)
  obtain ⟨rfl, rfl⟩ := hz9
  refine zg_iand X dX3_findOnPath_7 ?_
  refine zg_aload_n X dX3_findOnPath_8 rfl ?_
  refine rg_Groups_count X f3 l24 dX3_findOnPath_9 ?_
  refine zg_callSNi X (k_X6_findLowest l D ad T _ _ (σ.1 1) (by omega)) zFr.rf gX3_findOnPath_X6_findLowest_n59 (host := RX6) (by decide +kernel) l59s l59i rfl rfl rfl qd_X6_findLowest rfl ⟨Nat.le_of_ble_eq_true rfl, Nat.le_of_ble_eq_true rfl⟩ rfl (Nat.le_of_ble_eq_true rfl) ⟨Nat.le_of_ble_eq_true rfl, Nat.le_of_ble_eq_true rfl⟩ dX3_findOnPath_12 (fun r w1 hz9 => ?_)
  obtain ⟨rfl, rfl⟩ := hz9
  refine zg_istore X dX3_findOnPath_15 (by decide) ?_
  refine zg_iconst X (v := 1) dX3_findOnPath_17 (by decide) ?_
  refine zg_istore X dX3_findOnPath_18 (by decide) ?_
  have LP20 : ∀ (fu : Nat) (i : Nat) (gr : Int32), t + 1 ≤ i + fu → i ≤ t → gr = onPath σ x q k i → zG p l e (headSpec wsX3_findOnPath ({ frames := 3, cells := 0, slots := 0, locals := 67 })).room s m [.ref (ad 2), .int x, .int (nI q), .int (nI k), .int (nI t)].toArray below meth c D 7 A 0 0 (MQ below (qI D (zT T) (fun r w => r = onPath σ x q k t ∧ w = wC ad T σ) A) [.ref (ad 2), .int x, .int (nI q), .int (nI k), .int (nI t)].toArray s 0 0 A) (wC ad T σ) 20 [(0, .ref (ad 2)), (1, .int x), (2, .int (nI q)), (3, .int (nI k)), (4, .int (nI t)), (5, .int gr), (6, .int (nI (i + 1)))] [] := by
    intro fu
    induction fu with
    | zero => intro i gr hfu hii _; exact absurd hfu (by omega)
    | succ fu ih20 =>
      intro i gr hfu hii hgr
      refine zg_iload X dX3_findOnPath_20 rfl ?_
      refine zg_iload X dX3_findOnPath_22 rfl ?_
      refine zg_icmpn_gt X dX3_findOnPath_24 (tgt := 70) (by decide) (a := (i + 1)) (b := t) (by omega) (by omega) (fun c_24 => ?_) (fun c_24 => ?_)
      · skip
        refine zg_iload X dX3_findOnPath_70 rfl ?_
        exact zg_iret X hr dX3_findOnPath_72 (Nat.le_of_ble_eq_true rfl) (Nat.le_of_ble_eq_true rfl) (⟨by rw [hgr, show i = t by omega], rfl⟩)
      · skip
        refine zg_aload_n X dX3_findOnPath_27 rfl ?_
        refine zg_iload X dX3_findOnPath_28 rfl ?_
        refine zg_callVi X (k_X3_has l D ad T _ hB0 _) zFr.rf gX3_findOnPath_X3_has rfl rfl rfl qv_X3_has rfl ⟨Nat.le_of_ble_eq_true rfl, Nat.le_of_ble_eq_true rfl⟩ (q0 := 2) (ci := 5) rfl rfl rfl (Nat.le_of_ble_eq_true rfl) ⟨Nat.le_of_ble_eq_true rfl, Nat.le_of_ble_eq_true rfl⟩ dX3_findOnPath_30 (fun r w1 hz9 => ?_)
        obtain ⟨rfl, rfl⟩ := hz9
        refine zg_if_neb X dX3_findOnPath_33 (tgt := 38) (by decide) (fun c_33 => ?_) (fun c_33 => ?_)
        · skip
          obtain ⟨j, hj, ej⟩ := pIn_idx (by omega) c_33
          subst ej
          refine zg_aload_n X dX3_findOnPath_38 rfl ?_
          refine rg_Groups_nested X f3 l18 dX3_findOnPath_39 ?_
          refine zg_iload X dX3_findOnPath_42 rfl ?_
          refine rlC_nested X (by omega) dX3_findOnPath_44 ?_
          refine zg_aload_n X dX3_findOnPath_45 rfl ?_
          refine zg_iload_n X dX3_findOnPath_46 rfl ?_
          refine zg_iload_n X dX3_findOnPath_47 rfl ?_
          refine zg_iload X dX3_findOnPath_48 rfl ?_
          refine zg_isub X dX3_findOnPath_50 ?_
          refine zg_top (pk_sub (by omega)) ?_
          refine zg_callVi X (k_X3_findWithin l D ad T _ hB0 q (k - (i + 1)) (by omega)) zFr.rf gX3_findOnPath_X3_findWithin rfl rfl rfl qv_X3_findWithin rfl ⟨Nat.le_of_ble_eq_true rfl, Nat.le_of_ble_eq_true rfl⟩ (q0 := 2) (ci := 5) rfl rfl rfl (Nat.le_of_ble_eq_true rfl) ⟨Nat.le_of_ble_eq_true rfl, Nat.le_of_ble_eq_true rfl⟩ dX3_findOnPath_51 (fun r w1 hz9 => ?_)
          obtain ⟨rfl, rfl⟩ := hz9
          refine zg_iand X dX3_findOnPath_54 ?_
          refine zg_aload_n X dX3_findOnPath_55 rfl ?_
          refine rg_Groups_count X f3 l24 dX3_findOnPath_56 ?_
          refine zg_callSNi X (k_X6_findLowest l D ad T _ _ (σ.1 1) (by omega)) zFr.rf gX3_findOnPath_X6_findLowest_n59 (host := RX6) (by decide +kernel) l59s l59i rfl rfl rfl qd_X6_findLowest rfl ⟨Nat.le_of_ble_eq_true rfl, Nat.le_of_ble_eq_true rfl⟩ rfl (Nat.le_of_ble_eq_true rfl) ⟨Nat.le_of_ble_eq_true rfl, Nat.le_of_ble_eq_true rfl⟩ dX3_findOnPath_59 (fun r w1 hz9 => ?_)
          obtain ⟨rfl, rfl⟩ := hz9
          refine zg_istore X dX3_findOnPath_62 (by decide) ?_
          refine zg_iinc1 X dX3_findOnPath_64 (by decide) rfl ?_
          refine zg_goto X dX3_findOnPath_67 (tgt := 20) (by decide) ?_
          exact zg_lv (by exact ⟨rfl, rfl, rfl, rfl, rfl, rfl, rfl, trivial⟩) (ih20 (i + 1) _ (by omega) (by omega) (by rw [onPath, ← hgr, if_pos c_33, ix_nI (by omega)]))
        · skip
          refine zg_iconst X (v := (-1)) dX3_findOnPath_36 (by decide) ?_
          exact zg_iret X hr dX3_findOnPath_37 (Nat.le_of_ble_eq_true rfl) (Nat.le_of_ble_eq_true rfl) (⟨by rw [hgr] at c_33; rw [onPath_stuck c_33 (show i < t by omega)], rfl⟩)
  exact zg_lv (by exact ⟨rfl, rfl, rfl, rfl, rfl, rfl, rfl, trivial⟩) (LP20 (t + 1) 0 _ (by omega) (by omega) rfl)

set_option maxHeartbeats 4000000 in
set_option maxRecDepth 100000 in
theorem k_X2_add (l : Launch) (D : va_G) (ad : Nat → Nat) (T : Nat → ClassId) (σ : ZS) (r pe gr dy : Int32) (hlt : σ.1 3 < 24) : zM l yX2_add wsX2_add ({ frames := 0, cells := 0, slots := 0, locals := 0 }) D (zT T) [.ref (ad 4), .int r, .int pe, .int gr, .int dy] (wC ad T σ) 0 0 (qI D (zT T) (fun v w => v = nI (σ.1 3) ∧ w = wC ad T (gAdd σ r pe gr dy))) := by
  refine zg_of (cc := cX2_add) (maxL := 5) (ret := (some .int)) (by decide) rfl (Nat.le_of_ble_eq_true rfl) (fun p e s m below meth c A hin hr X => ?_)
  have X : zC p s m _ meth c cX2_add 5 wsX2_add RX2 D (zT T) A := X
  have f2 : ∀ w ∈ u_ws RX2 TX2 7, w ∈ wsX2_add := by decide +kernel
  have l15 : Cond.fieldLink RX2 15 "Recertify$Grants" "people" "[I" ∈ wsX2_add := by decide +kernel
  have l18 : Cond.fieldLink RX2 18 "Recertify$Grants" "groups" "[I" ∈ wsX2_add := by decide +kernel
  have l21 : Cond.fieldLink RX2 21 "Recertify$Grants" "states" "[C" ∈ wsX2_add := by decide +kernel
  have l28 : Cond.fieldLink RX2 28 "Recertify$Grants" "lastUses" "[I" ∈ wsX2_add := by decide +kernel
  have l31 : Cond.fieldLink RX2 31 "Recertify$Grants" "count" "I" ∈ wsX2_add := by decide +kernel
  have l9 : Cond.fieldLink RX2 9 "Recertify$Grants" "rights" "[I" ∈ wsX2_add := by decide +kernel
  refine zg_aload_n X dX2_add_0 rfl ?_
  refine rg_Grants_rights X f2 l9 dX2_add_1 ?_
  refine zg_aload_n X dX2_add_4 rfl ?_
  refine rg_Grants_count X f2 l31 dX2_add_5 ?_
  refine zg_iload_n X dX2_add_8 rfl ?_
  refine rsC_gRight X hlt dX2_add_9 ?_
  refine zg_aload_n X dX2_add_10 rfl ?_
  refine rg_Grants_people X f2 l15 dX2_add_11 ?_
  refine zg_aload_n X dX2_add_14 rfl ?_
  refine rg_Grants_count X f2 l31 dX2_add_15 ?_
  refine zg_iload_n X dX2_add_18 rfl ?_
  refine rsC_gPeople X hlt dX2_add_19 ?_
  refine zg_aload_n X dX2_add_20 rfl ?_
  refine rg_Grants_groups X f2 l18 dX2_add_21 ?_
  refine zg_aload_n X dX2_add_24 rfl ?_
  refine rg_Grants_count X f2 l31 dX2_add_25 ?_
  refine zg_iload_n X dX2_add_28 rfl ?_
  refine rsC_gGroups X hlt dX2_add_29 ?_
  refine zg_aload_n X dX2_add_30 rfl ?_
  refine rg_Grants_states X f2 l21 dX2_add_31 ?_
  refine zg_aload_n X dX2_add_34 rfl ?_
  refine rg_Grants_count X f2 l31 dX2_add_35 ?_
  refine zg_bipush X (v := 97) dX2_add_38 (by decide) ?_
  refine rsC_states X hlt rfl dX2_add_40 ?_
  refine zg_aload_n X dX2_add_41 rfl ?_
  refine rg_Grants_lastUses X f2 l28 dX2_add_42 ?_
  refine zg_aload_n X dX2_add_45 rfl ?_
  refine rg_Grants_count X f2 l31 dX2_add_46 ?_
  refine zg_iload X dX2_add_49 rfl ?_
  refine rsC_used X hlt dX2_add_51 ?_
  refine zg_aload_n X dX2_add_52 rfl ?_
  refine zg_dup X dX2_add_53 rfl ?_
  refine rg_Grants_count X f2 l31 dX2_add_54 ?_
  refine zg_dup_x1 X dX2_add_57 rfl rfl ?_
  refine zg_iconst X (v := 1) dX2_add_58 (by decide) ?_
  refine zg_iadd X dX2_add_59 ?_
  refine zg_top (nI_1 _) ?_
  refine rp_Grants_count X f2 l31 dX2_add_60 ?_
  exact zg_iret X hr dX2_add_63 (Nat.le_of_ble_eq_true rfl) (Nat.le_of_ble_eq_true rfl) (⟨rfl, rfl⟩)

set_option maxHeartbeats 4000000 in
set_option maxRecDepth 100000 in
theorem k_X2_isActiveOf (l : Launch) (D : va_G) (ad : Nat → Nat) (T : Nat → ClassId) (σ : ZS) (g : Nat) (hg : g < 24) (r : Int32) : zM l yX2_isActiveOf wsX2_isActiveOf ({ frames := 0, cells := 0, slots := 0, locals := 0 }) D (zT T) [.ref (ad 4), .int (nI g), .int r] (wC ad T σ) 0 0 (qI D (zT T) (fun v w => v = bI (actOf σ g r) ∧ w = wC ad T σ)) := by
  refine zg_of (cc := cX2_isActiveOf) (maxL := 3) (ret := (some .boolean)) (by decide) rfl (Nat.le_of_ble_eq_true rfl) (fun p e s m below meth c A hin hr X => ?_)
  have X : zC p s m _ meth c cX2_isActiveOf 3 wsX2_isActiveOf RX2 D (zT T) A := X
  have f2 : ∀ w ∈ u_ws RX2 TX2 7, w ∈ wsX2_isActiveOf := by decide +kernel
  have l21 : Cond.fieldLink RX2 21 "Recertify$Grants" "states" "[C" ∈ wsX2_isActiveOf := by decide +kernel
  have l9 : Cond.fieldLink RX2 9 "Recertify$Grants" "rights" "[I" ∈ wsX2_isActiveOf := by decide +kernel
  refine zg_aload_n X dX2_isActiveOf_0 rfl ?_
  refine rg_Grants_rights X f2 l9 dX2_isActiveOf_1 ?_
  refine zg_iload_n X dX2_isActiveOf_4 rfl ?_
  refine rlC_gRight X (by omega) dX2_isActiveOf_5 ?_
  refine zg_iload_n X dX2_isActiveOf_6 rfl ?_
  refine zg_icmp_ne X dX2_isActiveOf_7 (tgt := 25) (by decide) (fun c_7 => ?_) (fun c_7 => ?_)
  · skip
    refine zg_iconst X (v := 0) dX2_isActiveOf_25 (by decide) ?_
    exact zg_nret X hr (rfl) dX2_isActiveOf_26 (Nat.le_of_ble_eq_true rfl) (Nat.le_of_ble_eq_true rfl) (⟨(bI_f (fun h => c_7 h.1)).symm, rfl⟩)
  · skip
    refine zg_aload_n X dX2_isActiveOf_10 rfl ?_
    refine rg_Grants_states X f2 l21 dX2_isActiveOf_11 ?_
    refine zg_iload_n X dX2_isActiveOf_14 rfl ?_
    refine rlC_states X (by omega) dX2_isActiveOf_15 ?_
    refine zg_bipush X (v := 120) dX2_isActiveOf_16 (by decide) ?_
    refine zg_icmp_eq X dX2_isActiveOf_18 (tgt := 25) (by decide) (fun c_18 => ?_) (fun c_18 => ?_)
    · skip
      refine zg_iconst X (v := 0) dX2_isActiveOf_25 (by decide) ?_
      exact zg_nret X hr (rfl) dX2_isActiveOf_26 (Nat.le_of_ble_eq_true rfl) (Nat.le_of_ble_eq_true rfl) (⟨(bI_f (fun h => h.2 c_18)).symm, rfl⟩)
    · skip
      refine zg_iconst X (v := 1) dX2_isActiveOf_21 (by decide) ?_
      refine zg_goto X dX2_isActiveOf_22 (tgt := 26) (by decide) ?_
      exact zg_nret X hr (rfl) dX2_isActiveOf_26 (Nat.le_of_ble_eq_true rfl) (Nat.le_of_ble_eq_true rfl) (⟨(bI_t ⟨c_7, c_18⟩).symm, rfl⟩)

set_option maxHeartbeats 4000000 in
set_option maxRecDepth 100000 in
theorem k_X2_hasActive (l : Launch) (D : va_G) (ad : Nat → Nat) (T : Nat → ClassId) (σ : ZS) (hB0 : zBd σ) (r x y : Int32) : zM l yX2_hasActive wsX2_hasActive ({ frames := 1, cells := 0, slots := 0, locals := 22 }) D (zT T) [.ref (ad 4), .int r, .int x, .int y] (wC ad T σ) 0 0 (qI D (zT T) (fun v w => v = bI (hasAct σ r x y) ∧ w = wC ad T σ)) := by
  have hB1 := hB0
  obtain ⟨b0, b1, b2, b3, b4, b5⟩ := hB1
  refine zg_of (cc := cX2_hasActive) (maxL := 5) (ret := (some .boolean)) (by decide) rfl (Nat.le_of_ble_eq_true rfl) (fun p e s m below meth c A hin hr X => ?_)
  have X : zC p s m _ meth c cX2_hasActive 5 wsX2_hasActive RX2 D (zT T) A := X
  have f2 : ∀ w ∈ u_ws RX2 TX2 7, w ∈ wsX2_hasActive := by decide +kernel
  have l15 : Cond.fieldLink RX2 15 "Recertify$Grants" "people" "[I" ∈ wsX2_hasActive := by decide +kernel
  have l18 : Cond.fieldLink RX2 18 "Recertify$Grants" "groups" "[I" ∈ wsX2_hasActive := by decide +kernel
  have l31 : Cond.fieldLink RX2 31 "Recertify$Grants" "count" "I" ∈ wsX2_hasActive := by decide +kernel
  refine zg_iconst X (v := 0) dX2_hasActive_0 (by decide) ?_
  refine zg_istore X dX2_hasActive_1 (by decide) ?_
  have LP3 : ∀ (fu : Nat) (i : Nat), σ.1 3 + 1 ≤ i + fu → i ≤ σ.1 3 → (∀ a, a < i → ¬ (actOf σ a r ∧ σ.2.2 21 a = x ∧ σ.2.2 22 a = y)) → zG p l e (headSpec wsX2_hasActive ({ frames := 1, cells := 0, slots := 0, locals := 22 })).room s m [.ref (ad 4), .int r, .int x, .int y].toArray below meth c D 5 A 0 0 (MQ below (qI D (zT T) (fun v w => v = bI (hasAct σ r x y) ∧ w = wC ad T σ) A) [.ref (ad 4), .int r, .int x, .int y].toArray s 0 0 A) (wC ad T σ) 3 [(0, .ref (ad 4)), (1, .int r), (2, .int x), (3, .int y), (4, .int (nI i))] [] := by
    intro fu
    induction fu with
    | zero => intro i hfu hii _; exact absurd hfu (by omega)
    | succ fu ih3 =>
      intro i hfu hii hq
      refine zg_iload X dX2_hasActive_3 rfl ?_
      refine zg_aload_n X dX2_hasActive_5 rfl ?_
      refine rg_Grants_count X f2 l31 dX2_hasActive_6 ?_
      refine zg_icmpn_ge X dX2_hasActive_9 (tgt := 52) (by decide) (a := i) (b := σ.1 3) (by omega) (by omega) (fun c_9 => ?_) (fun c_9 => ?_)
      · skip
        refine zg_iconst X (v := 0) dX2_hasActive_52 (by decide) ?_
        exact zg_nret X hr (rfl) dX2_hasActive_53 (Nat.le_of_ble_eq_true rfl) (Nat.le_of_ble_eq_true rfl) (⟨(bI_f (exB_f (fun a ha => hq a (by omega)))).symm, rfl⟩)
      · skip
        refine zg_aload_n X dX2_hasActive_12 rfl ?_
        refine zg_iload X dX2_hasActive_13 rfl ?_
        refine zg_iload_n X dX2_hasActive_15 rfl ?_
        refine zg_callVi X (k_X2_isActiveOf l D ad T _ i (by omega) r) zFr.rf gX2_hasActive_X2_isActiveOf rfl rfl rfl qv_X2_isActiveOf rfl ⟨Nat.le_of_ble_eq_true rfl, Nat.le_of_ble_eq_true rfl⟩ (q0 := 4) (ci := 4) rfl rfl rfl (Nat.le_of_ble_eq_true rfl) ⟨Nat.le_of_ble_eq_true rfl, Nat.le_of_ble_eq_true rfl⟩ dX2_hasActive_16 (fun r w1 hz9 => ?_)
        obtain ⟨rfl, rfl⟩ := hz9
        refine zg_if_eqb X dX2_hasActive_19 (tgt := 46) (by decide) (fun c_19 => ?_) (fun c_19 => ?_)
        · skip
          refine zg_iinc1 X dX2_hasActive_46 (by decide) rfl ?_
          refine zg_goto X dX2_hasActive_49 (tgt := 3) (by decide) ?_
          exact zg_lv (by exact ⟨rfl, rfl, rfl, rfl, rfl, trivial⟩) (ih3 (i + 1) (by omega) (by omega) (lt_s hq (fun h => c_19 h.1)))
        · skip
          refine zg_aload_n X dX2_hasActive_22 rfl ?_
          refine rg_Grants_people X f2 l15 dX2_hasActive_23 ?_
          refine zg_iload X dX2_hasActive_26 rfl ?_
          refine rlC_gPeople X (by omega) dX2_hasActive_28 ?_
          refine zg_iload_n X dX2_hasActive_29 rfl ?_
          refine zg_icmp_ne X dX2_hasActive_30 (tgt := 46) (by decide) (fun c_30 => ?_) (fun c_30 => ?_)
          · skip
            refine zg_iinc1 X dX2_hasActive_46 (by decide) rfl ?_
            refine zg_goto X dX2_hasActive_49 (tgt := 3) (by decide) ?_
            exact zg_lv (by exact ⟨rfl, rfl, rfl, rfl, rfl, trivial⟩) (ih3 (i + 1) (by omega) (by omega) (lt_s hq (fun h => c_30 h.2.1)))
          · skip
            refine zg_aload_n X dX2_hasActive_33 rfl ?_
            refine rg_Grants_groups X f2 l18 dX2_hasActive_34 ?_
            refine zg_iload X dX2_hasActive_37 rfl ?_
            refine rlC_gGroups X (by omega) dX2_hasActive_39 ?_
            refine zg_iload_n X dX2_hasActive_40 rfl ?_
            refine zg_icmp_ne X dX2_hasActive_41 (tgt := 46) (by decide) (fun c_41 => ?_) (fun c_41 => ?_)
            · skip
              refine zg_iinc1 X dX2_hasActive_46 (by decide) rfl ?_
              refine zg_goto X dX2_hasActive_49 (tgt := 3) (by decide) ?_
              exact zg_lv (by exact ⟨rfl, rfl, rfl, rfl, rfl, trivial⟩) (ih3 (i + 1) (by omega) (by omega) (lt_s hq (fun h => c_41 h.2.2)))
            · skip
              refine zg_iconst X (v := 1) dX2_hasActive_44 (by decide) ?_
              exact zg_nret X hr (rfl) dX2_hasActive_45 (Nat.le_of_ble_eq_true rfl) (Nat.le_of_ble_eq_true rfl) (⟨(bI_t (exB_t (by omega) ⟨c_19, c_30, c_41⟩)).symm, rfl⟩)
  exact zg_lv (by exact ⟨rfl, rfl, rfl, rfl, rfl, trivial⟩) (LP3 (σ.1 3 + 1) 0 (by omega) (by omega) (fun a ha => absurd ha (Nat.not_lt_zero a)))

set_option maxHeartbeats 4000000 in
set_option maxRecDepth 100000 in
theorem k_X2_hasAnyInState (l : Launch) (D : va_G) (ad : Nat → Nat) (T : Nat → ClassId) (σ : ZS) (hB0 : zBd σ) (c0 : Int32) : zM l yX2_hasAnyInState wsX2_hasAnyInState ({ frames := 0, cells := 0, slots := 0, locals := 0 }) D (zT T) [.ref (ad 4), .int c0] (wC ad T σ) 0 0 (qI D (zT T) (fun v w => v = bI (hasSt σ c0) ∧ w = wC ad T σ)) := by
  have hB1 := hB0
  obtain ⟨b0, b1, b2, b3, b4, b5⟩ := hB1
  refine zg_of (cc := cX2_hasAnyInState) (maxL := 3) (ret := (some .boolean)) (by decide) rfl (Nat.le_of_ble_eq_true rfl) (fun p e s m below meth c A hin hr X => ?_)
  have X : zC p s m _ meth c cX2_hasAnyInState 3 wsX2_hasAnyInState RX2 D (zT T) A := X
  have f2 : ∀ w ∈ u_ws RX2 TX2 7, w ∈ wsX2_hasAnyInState := by decide +kernel
  have l21 : Cond.fieldLink RX2 21 "Recertify$Grants" "states" "[C" ∈ wsX2_hasAnyInState := by decide +kernel
  have l31 : Cond.fieldLink RX2 31 "Recertify$Grants" "count" "I" ∈ wsX2_hasAnyInState := by decide +kernel
  refine zg_iconst X (v := 0) dX2_hasAnyInState_0 (by decide) ?_
  refine zg_istore_n X dX2_hasAnyInState_1 (by decide) ?_
  have LP2 : ∀ (fu : Nat) (i : Nat), σ.1 3 + 1 ≤ i + fu → i ≤ σ.1 3 → (∀ a, a < i → ¬ (σ.2.2 11 a = c0)) → zG p l e (headSpec wsX2_hasAnyInState ({ frames := 0, cells := 0, slots := 0, locals := 0 })).room s m [.ref (ad 4), .int c0].toArray below meth c D 3 A 0 0 (MQ below (qI D (zT T) (fun v w => v = bI (hasSt σ c0) ∧ w = wC ad T σ) A) [.ref (ad 4), .int c0].toArray s 0 0 A) (wC ad T σ) 2 [(0, .ref (ad 4)), (1, .int c0), (2, .int (nI i))] [] := by
    intro fu
    induction fu with
    | zero => intro i hfu hii _; exact absurd hfu (by omega)
    | succ fu ih2 =>
      intro i hfu hii hq
      refine zg_iload_n X dX2_hasAnyInState_2 rfl ?_
      refine zg_aload_n X dX2_hasAnyInState_3 rfl ?_
      refine rg_Grants_count X f2 l31 dX2_hasAnyInState_4 ?_
      refine zg_icmpn_ge X dX2_hasAnyInState_7 (tgt := 28) (by decide) (a := i) (b := σ.1 3) (by omega) (by omega) (fun c_7 => ?_) (fun c_7 => ?_)
      · skip
        refine zg_iconst X (v := 0) dX2_hasAnyInState_28 (by decide) ?_
        exact zg_nret X hr (rfl) dX2_hasAnyInState_29 (Nat.le_of_ble_eq_true rfl) (Nat.le_of_ble_eq_true rfl) (⟨(bI_f (exB_f (fun a ha => hq a (by omega)))).symm, rfl⟩)
      · skip
        refine zg_aload_n X dX2_hasAnyInState_10 rfl ?_
        refine rg_Grants_states X f2 l21 dX2_hasAnyInState_11 ?_
        refine zg_iload_n X dX2_hasAnyInState_14 rfl ?_
        refine rlC_states X (by omega) dX2_hasAnyInState_15 ?_
        refine zg_iload_n X dX2_hasAnyInState_16 rfl ?_
        refine zg_icmp_ne X dX2_hasAnyInState_17 (tgt := 22) (by decide) (fun c_17 => ?_) (fun c_17 => ?_)
        · skip
          refine zg_iinc1 X dX2_hasAnyInState_22 (by decide) rfl ?_
          refine zg_goto X dX2_hasAnyInState_25 (tgt := 2) (by decide) ?_
          exact zg_lv (by exact ⟨rfl, rfl, rfl, trivial⟩) (ih2 (i + 1) (by omega) (by omega) (lt_s hq c_17))
        · skip
          refine zg_iconst X (v := 1) dX2_hasAnyInState_20 (by decide) ?_
          exact zg_nret X hr (rfl) dX2_hasAnyInState_21 (Nat.le_of_ble_eq_true rfl) (Nat.le_of_ble_eq_true rfl) (⟨(bI_t (exB_t (by omega) c_17)).symm, rfl⟩)
  exact zg_lv (by exact ⟨rfl, rfl, rfl, trivial⟩) (LP2 (σ.1 3 + 1) 0 (by omega) (by omega) (fun a ha => absurd ha (Nat.not_lt_zero a)))

set_option maxHeartbeats 4000000 in
set_option maxRecDepth 100000 in
theorem k_X2_findFirstDue (l : Launch) (D : va_G) (ad : Nat → Nat) (T : Nat → ClassId) (σ : ZS) (hB0 : zBd σ) (dy sn : Int32) : zM l yX2_findFirstDue wsX2_findFirstDue ({ frames := 2, cells := 0, slots := 0, locals := 41 }) D (zT T) [.ref (ad 4), .int dy, .int sn] (wC ad T σ) 0 0 (qI D (zT T) (fun v w => v = firstDue σ dy sn ∧ w = wC ad T σ)) := by
  have hB1 := hB0
  obtain ⟨b0, b1, b2, b3, b4, b5⟩ := hB1
  refine zg_of (cc := cX2_findFirstDue) (maxL := 7) (ret := (some .int)) (by decide) rfl (Nat.le_of_ble_eq_true rfl) (fun p e s m below meth c A hin hr X => ?_)
  have X : zC p s m _ meth c cX2_findFirstDue 7 wsX2_findFirstDue RX2 D (zT T) A := X
  have f2 : ∀ w ∈ u_ws RX2 TX2 7, w ∈ wsX2_findFirstDue := by decide +kernel
  have l39i : Cond.initialized RX6 ∈ wsX2_findFirstDue := by decide +kernel
  have l39s : Cond.static yX6_contains ∈ wsX2_findFirstDue := by decide +kernel
  have l21 : Cond.fieldLink RX2 21 "Recertify$Grants" "states" "[C" ∈ wsX2_findFirstDue := by decide +kernel
  have l25 : Cond.fieldLink RX2 25 "Recertify$Grants" "dueDays" "[I" ∈ wsX2_findFirstDue := by decide +kernel
  have l31 : Cond.fieldLink RX2 31 "Recertify$Grants" "count" "I" ∈ wsX2_findFirstDue := by decide +kernel
  refine zg_iconst X (v := (-1)) dX2_findFirstDue_0 (by decide) ?_
  refine zg_istore_n X dX2_findFirstDue_1 (by decide) ?_
  refine zg_iconst X (v := 0) dX2_findFirstDue_2 (by decide) ?_
  refine zg_istore X dX2_findFirstDue_3 (by decide) ?_
  refine zg_iconst X (v := 0) dX2_findFirstDue_5 (by decide) ?_
  refine zg_istore X dX2_findFirstDue_6 (by decide) ?_
  have LP8 : ∀ (fu : Nat) (i : Nat) (fst : Int32) (ear : Int32), σ.1 3 + 1 ≤ i + fu → i ≤ σ.1 3 → (fst, ear) = fN (dueF σ dy sn) (-1, 0) i → zG p l e (headSpec wsX2_findFirstDue ({ frames := 2, cells := 0, slots := 0, locals := 41 })).room s m [.ref (ad 4), .int dy, .int sn].toArray below meth c D 7 A 0 0 (MQ below (qI D (zT T) (fun v w => v = firstDue σ dy sn ∧ w = wC ad T σ) A) [.ref (ad 4), .int dy, .int sn].toArray s 0 0 A) (wC ad T σ) 8 [(0, .ref (ad 4)), (1, .int dy), (2, .int sn), (3, .int fst), (4, .int ear), (5, .int (nI i))] [] := by
    intro fu
    induction fu with
    | zero => intro i fst ear hfu hii _; exact absurd hfu (by omega)
    | succ fu ih8 =>
      intro i fst ear hfu hii hb
      refine zg_iload X dX2_findFirstDue_8 rfl ?_
      refine zg_aload_n X dX2_findFirstDue_10 rfl ?_
      refine rg_Grants_count X f2 l31 dX2_findFirstDue_11 ?_
      refine zg_icmpn_ge X dX2_findFirstDue_14 (tgt := 96) (by decide) (a := i) (b := σ.1 3) (by omega) (by omega) (fun c_14 => ?_) (fun c_14 => ?_)
      · skip
        refine zg_iload_n X dX2_findFirstDue_96 rfl ?_
        exact zg_iret X hr dX2_findFirstDue_97 (Nat.le_of_ble_eq_true rfl) (Nat.le_of_ble_eq_true rfl) (⟨by rw [firstDue, show σ.1 3 = i by omega, ← hb], rfl⟩)
      · skip
        refine zg_aload_n X dX2_findFirstDue_17 rfl ?_
        refine rg_Grants_states X f2 l21 dX2_findFirstDue_18 ?_
        refine zg_iload X dX2_findFirstDue_21 rfl ?_
        refine rlC_states X (by omega) dX2_findFirstDue_23 ?_
        refine zg_bipush X (v := 119) dX2_findFirstDue_24 (by decide) ?_
        refine zg_icmp_ne X dX2_findFirstDue_26 (tgt := 53) (by decide) (fun c_26 => ?_) (fun c_26 => ?_)
        · skip
          refine zg_iconst X (v := 0) dX2_findFirstDue_53 (by decide) ?_
          refine zg_istore X dX2_findFirstDue_54 (by decide) ?_
          refine zg_iload X dX2_findFirstDue_56 rfl ?_
          refine zg_if_eq X dX2_findFirstDue_58 (tgt := 90) (by decide) (fun _ => ?_) (fun q => absurd q (by decide))
          refine zg_iinc1 X dX2_findFirstDue_90 (by decide) rfl ?_
          refine zg_goto X dX2_findFirstDue_93 (tgt := 8) (by decide) ?_
          exact zg_lv (by exact ⟨rfl, rfl, rfl, rfl, rfl, rfl, trivial⟩) (ih8 (i + 1) _ _ (by omega) (by omega) (by rw [fN, ← hb, dueF]; exact (if_neg (fun h => c_26 h.1.1)).symm))
        · skip
          refine zg_aload_n X dX2_findFirstDue_29 rfl ?_
          refine rg_Grants_dueDays X f2 l25 dX2_findFirstDue_30 ?_
          refine zg_iload X dX2_findFirstDue_33 rfl ?_
          refine rlC_due X (by omega) dX2_findFirstDue_35 ?_
          refine zg_iload_n X dX2_findFirstDue_36 rfl ?_
          refine zg_icmp_gt X dX2_findFirstDue_37 (tgt := 53) (by decide) (fun c_37 => ?_) (fun c_37 => ?_)
          · skip
            refine zg_iconst X (v := 0) dX2_findFirstDue_53 (by decide) ?_
            refine zg_istore X dX2_findFirstDue_54 (by decide) ?_
            refine zg_iload X dX2_findFirstDue_56 rfl ?_
            refine zg_if_eq X dX2_findFirstDue_58 (tgt := 90) (by decide) (fun _ => ?_) (fun q => absurd q (by decide))
            refine zg_iinc1 X dX2_findFirstDue_90 (by decide) rfl ?_
            refine zg_goto X dX2_findFirstDue_93 (tgt := 8) (by decide) ?_
            exact zg_lv (by exact ⟨rfl, rfl, rfl, rfl, rfl, rfl, trivial⟩) (ih8 (i + 1) _ _ (by omega) (by omega) (by rw [fN, ← hb, dueF]; exact (if_neg (fun h => zi_lt.mp c_37 h.1.2.1)).symm))
          · skip
            refine zg_iload_n X dX2_findFirstDue_40 rfl ?_
            refine zg_iload X dX2_findFirstDue_41 rfl ?_
            refine zg_callSNi X (k_X6_contains l D ad T _ sn i) zFr.rf gX2_findFirstDue_X6_contains_n39 (host := RX6) (by decide +kernel) l39s l39i rfl rfl rfl qd_X6_contains rfl ⟨Nat.le_of_ble_eq_true rfl, Nat.le_of_ble_eq_true rfl⟩ rfl (Nat.le_of_ble_eq_true rfl) ⟨Nat.le_of_ble_eq_true rfl, Nat.le_of_ble_eq_true rfl⟩ dX2_findFirstDue_43 (fun r w1 hz9 => ?_)
            obtain ⟨rfl, rfl⟩ := hz9
            refine zg_if_neb X dX2_findFirstDue_46 (tgt := 53) (by decide) (fun c_46 => ?_) (fun c_46 => ?_)
            · skip
              refine zg_iconst X (v := 0) dX2_findFirstDue_53 (by decide) ?_
              refine zg_istore X dX2_findFirstDue_54 (by decide) ?_
              refine zg_iload X dX2_findFirstDue_56 rfl ?_
              refine zg_if_eq X dX2_findFirstDue_58 (tgt := 90) (by decide) (fun _ => ?_) (fun q => absurd q (by decide))
              refine zg_iinc1 X dX2_findFirstDue_90 (by decide) rfl ?_
              refine zg_goto X dX2_findFirstDue_93 (tgt := 8) (by decide) ?_
              exact zg_lv (by exact ⟨rfl, rfl, rfl, rfl, rfl, rfl, trivial⟩) (ih8 (i + 1) _ _ (by omega) (by omega) (by rw [fN, ← hb, dueF]; exact (if_neg (fun h => h.1.2.2 c_46)).symm))
            · skip
              refine zg_iconst X (v := 1) dX2_findFirstDue_49 (by decide) ?_
              refine zg_goto X dX2_findFirstDue_50 (tgt := 54) (by decide) ?_
              refine zg_istore X dX2_findFirstDue_54 (by decide) ?_
              refine zg_iload X dX2_findFirstDue_56 rfl ?_
              refine zg_if_eq X dX2_findFirstDue_58 (tgt := 90) (by decide) (fun q => absurd q (by decide)) (fun _ => ?_)
              refine zg_iload_n X dX2_findFirstDue_61 rfl ?_
              refine zg_iconst X (v := (-1)) dX2_findFirstDue_62 (by decide) ?_
              refine zg_icmp_eq X dX2_findFirstDue_63 (tgt := 78) (by decide) (fun c_63 => ?_) (fun c_63 => ?_)
              · skip
                refine zg_iload X dX2_findFirstDue_78 rfl ?_
                refine zg_istore_n X dX2_findFirstDue_80 (by decide) ?_
                refine zg_aload_n X dX2_findFirstDue_81 rfl ?_
                refine rg_Grants_dueDays X f2 l25 dX2_findFirstDue_82 ?_
                refine zg_iload X dX2_findFirstDue_85 rfl ?_
                refine rlC_due X (by omega) dX2_findFirstDue_87 ?_
                refine zg_istore X dX2_findFirstDue_88 (by decide) ?_
                refine zg_iinc1 X dX2_findFirstDue_90 (by decide) rfl ?_
                refine zg_goto X dX2_findFirstDue_93 (tgt := 8) (by decide) ?_
                exact zg_lv (by exact ⟨rfl, rfl, rfl, rfl, rfl, rfl, trivial⟩) (ih8 (i + 1) _ _ (by omega) (by omega) (by rw [fN, ← hb, dueF]; exact (if_pos ⟨⟨c_26, zi_le.mpr c_37, c_46⟩, Or.inl c_63⟩).symm))
              · skip
                refine zg_aload_n X dX2_findFirstDue_66 rfl ?_
                refine rg_Grants_dueDays X f2 l25 dX2_findFirstDue_67 ?_
                refine zg_iload X dX2_findFirstDue_70 rfl ?_
                refine rlC_due X (by omega) dX2_findFirstDue_72 ?_
                refine zg_iload X dX2_findFirstDue_73 rfl ?_
                refine zg_icmp_ge X dX2_findFirstDue_75 (tgt := 90) (by decide) (fun c_75 => ?_) (fun c_75 => ?_)
                · skip
                  refine zg_iinc1 X dX2_findFirstDue_90 (by decide) rfl ?_
                  refine zg_goto X dX2_findFirstDue_93 (tgt := 8) (by decide) ?_
                  exact zg_lv (by exact ⟨rfl, rfl, rfl, rfl, rfl, rfl, trivial⟩) (ih8 (i + 1) _ _ (by omega) (by omega) (by rw [fN, ← hb, dueF]; exact (if_neg (fun h => h.2.elim c_63 (fun q => zi_lt.mp q c_75))).symm))
                · skip
                  refine zg_iload X dX2_findFirstDue_78 rfl ?_
                  refine zg_istore_n X dX2_findFirstDue_80 (by decide) ?_
                  refine zg_aload_n X dX2_findFirstDue_81 rfl ?_
                  refine rg_Grants_dueDays X f2 l25 dX2_findFirstDue_82 ?_
                  refine zg_iload X dX2_findFirstDue_85 rfl ?_
                  refine rlC_due X (by omega) dX2_findFirstDue_87 ?_
                  refine zg_istore X dX2_findFirstDue_88 (by decide) ?_
                  refine zg_iinc1 X dX2_findFirstDue_90 (by decide) rfl ?_
                  refine zg_goto X dX2_findFirstDue_93 (tgt := 8) (by decide) ?_
                  exact zg_lv (by exact ⟨rfl, rfl, rfl, rfl, rfl, rfl, trivial⟩) (ih8 (i + 1) _ _ (by omega) (by omega) (by rw [fN, ← hb, dueF]; exact (if_pos ⟨⟨c_26, zi_le.mpr c_37, c_46⟩, Or.inr (zi_lt.mpr c_75)⟩).symm))
  exact zg_lv (by exact ⟨rfl, rfl, rfl, rfl, rfl, rfl, trivial⟩) (LP8 (σ.1 3 + 1) 0 _ _ (by omega) (by omega) rfl)

set_option maxHeartbeats 4000000 in
set_option maxRecDepth 100000 in
theorem k_X1_seal (l : Launch) (D : va_G) (ad : Nat → Nat) (T : Nat → ClassId) (σ : ZS) (b : Int32) (e0 : Nat) (he : e0 < 99) : zM l yX1_seal wsX1_seal ({ frames := 0, cells := 0, slots := 0, locals := 0 }) D (zT T) [.ref (ad 6), .int b, .int (nI e0)] (wC ad T σ) 0 0 (qI D (zT T) (fun r w => r = evSeal σ b e0 ∧ w = wC ad T σ)) := by
  refine zg_of (cc := cX1_seal) (maxL := 5) (ret := (some .int)) (by decide) rfl (Nat.le_of_ble_eq_true rfl) (fun p e s m below meth c A hin hr X => ?_)
  have X : zC p s m _ meth c cX1_seal 5 wsX1_seal RX1 D (zT T) A := X
  have f1 : ∀ w ∈ u_ws RX1 TX1 5, w ∈ wsX1_seal := by decide +kernel
  have l15 : Cond.fieldLink RX1 15 "Recertify$Evidence" "grants" "[I" ∈ wsX1_seal := by decide +kernel
  have l19 : Cond.fieldLink RX1 19 "Recertify$Evidence" "days" "[I" ∈ wsX1_seal := by decide +kernel
  have l33 : Cond.constant RX1 33 (65535) ∈ wsX1_seal := by decide +kernel
  have l9 : Cond.fieldLink RX1 9 "Recertify$Evidence" "signs" "[C" ∈ wsX1_seal := by decide +kernel
  refine zg_iload_n X dX1_seal_0 rfl ?_
  refine zg_iconst X (v := 5) dX1_seal_1 (by decide) ?_
  refine zg_ishl X dX1_seal_2 ?_
  refine zg_iload_n X dX1_seal_3 rfl ?_
  refine zg_bipush X (v := 11) dX1_seal_4 (by decide) ?_
  refine zg_iushr X dX1_seal_6 rfl ?_
  refine zg_ior X dX1_seal_7 ?_
  refine zg_ldc X (v := 65535) dX1_seal_8 l33 ?_
  refine zg_iand X dX1_seal_10 ?_
  refine zg_istore_n X dX1_seal_11 (by decide) ?_
  refine zg_sipush X (v := 257) dX1_seal_12 (by decide) ?_
  refine zg_aload_n X dX1_seal_15 rfl ?_
  refine rg_Evidence_grants X f1 l15 dX1_seal_16 ?_
  refine zg_iload_n X dX1_seal_19 rfl ?_
  refine rlC_evGrants X (by omega) dX1_seal_20 ?_
  refine zg_imul X dX1_seal_21 ?_
  refine zg_bipush X (v := 17) dX1_seal_22 (by decide) ?_
  refine zg_aload_n X dX1_seal_24 rfl ?_
  refine rg_Evidence_days X f1 l19 dX1_seal_25 ?_
  refine zg_iload_n X dX1_seal_28 rfl ?_
  refine rlC_evDays X (by omega) dX1_seal_29 ?_
  refine zg_imul X dX1_seal_30 ?_
  refine zg_iadd X dX1_seal_31 ?_
  refine zg_aload_n X dX1_seal_32 rfl ?_
  refine rg_Evidence_signs X f1 l9 dX1_seal_33 ?_
  refine zg_iload_n X dX1_seal_36 rfl ?_
  refine rlC_signs X (by omega) dX1_seal_37 ?_
  refine zg_iadd X dX1_seal_38 ?_
  refine zg_istore X dX1_seal_39 (by decide) ?_
  refine zg_iload_n X dX1_seal_41 rfl ?_
  refine zg_iload X dX1_seal_42 rfl ?_
  refine zg_ldc X (v := 65535) dX1_seal_44 l33 ?_
  refine zg_iand X dX1_seal_46 ?_
  refine zg_ixor X dX1_seal_47 ?_
  exact zg_iret X hr dX1_seal_48 (Nat.le_of_ble_eq_true rfl) (Nat.le_of_ble_eq_true rfl) (⟨rfl, rfl⟩)

set_option maxHeartbeats 4000000 in
set_option maxRecDepth 100000 in
theorem k_X1_add (l : Launch) (D : va_G) (ad : Nat → Nat) (T : Nat → ClassId) (σ : ZS) (hB0 : zBd σ) (sg g dy : Int32) (hsg : vp_nar .char sg = sg) : zM l yX1_add wsX1_add ({ frames := 1, cells := 0, slots := 0, locals := 24 }) D (zT T) [.ref (ad 6), .int sg, .int g, .int dy] (wC ad T σ) 0 0 (qV D (zT T) (fun w => w = wC ad T (evAdd σ sg g dy))) := by
  have hB1 := hB0
  obtain ⟨b0, b1, b2, b3, b4, b5⟩ := hB1
  refine zg_of (cc := cX1_add) (maxL := 5) (ret := none) (by decide) rfl (Nat.le_of_ble_eq_true rfl) (fun p e s m below meth c A hin hr X => ?_)
  have X : zC p s m _ meth c cX1_add 5 wsX1_add RX1 D (zT T) A := X
  have f1 : ∀ w ∈ u_ws RX1 TX1 5, w ∈ wsX1_add := by decide +kernel
  have l15 : Cond.fieldLink RX1 15 "Recertify$Evidence" "grants" "[I" ∈ wsX1_add := by decide +kernel
  have l19 : Cond.fieldLink RX1 19 "Recertify$Evidence" "days" "[I" ∈ wsX1_add := by decide +kernel
  have l22 : Cond.fieldLink RX1 22 "Recertify$Evidence" "seals" "[I" ∈ wsX1_add := by decide +kernel
  have l25 : Cond.fieldLink RX1 25 "Recertify$Evidence" "count" "I" ∈ wsX1_add := by decide +kernel
  have l9 : Cond.fieldLink RX1 9 "Recertify$Evidence" "signs" "[C" ∈ wsX1_add := by decide +kernel
  refine zg_aload_n X dX1_add_0 rfl ?_
  refine rg_Evidence_count X f1 l25 dX1_add_1 ?_
  refine zg_bipush X (v := 99) dX1_add_4 (by decide) ?_
  refine zg_icmpn_lt X dX1_add_6 (tgt := 10) (by decide) (a := σ.1 5) (b := 99) (by omega) (by omega) (fun c_6 => ?_) (fun c_6 => ?_)
  · skip
    refine zg_aload_n X dX1_add_10 rfl ?_
    refine rg_Evidence_count X f1 l25 dX1_add_11 ?_
    refine zg_ifn_le X dX1_add_14 (tgt := 31) (by decide) (by omega) (fun c_14 => ?_) (fun c_14 => ?_)
    · skip
      refine zg_iconst X (v := 0) dX1_add_31 (by decide) ?_
      refine zg_istore X dX1_add_32 (by decide) ?_
      refine zg_aload_n X dX1_add_34 rfl ?_
      refine rg_Evidence_signs X f1 l9 dX1_add_35 ?_
      refine zg_aload_n X dX1_add_38 rfl ?_
      refine rg_Evidence_count X f1 l25 dX1_add_39 ?_
      refine zg_iload_n X dX1_add_42 rfl ?_
      refine rsC_signs X (show σ.1 5 < 99 by omega) hsg dX1_add_43 ?_
      refine zg_aload_n X dX1_add_44 rfl ?_
      refine rg_Evidence_grants X f1 l15 dX1_add_45 ?_
      refine zg_aload_n X dX1_add_48 rfl ?_
      refine rg_Evidence_count X f1 l25 dX1_add_49 ?_
      refine zg_iload_n X dX1_add_52 rfl ?_
      refine rsC_evGrants X (show σ.1 5 < 99 by omega) dX1_add_53 ?_
      refine zg_aload_n X dX1_add_54 rfl ?_
      refine rg_Evidence_days X f1 l19 dX1_add_55 ?_
      refine zg_aload_n X dX1_add_58 rfl ?_
      refine rg_Evidence_count X f1 l25 dX1_add_59 ?_
      refine zg_iload_n X dX1_add_62 rfl ?_
      refine rsC_evDays X (show σ.1 5 < 99 by omega) dX1_add_63 ?_
      refine zg_aload_n X dX1_add_64 rfl ?_
      refine rg_Evidence_seals X f1 l22 dX1_add_65 ?_
      refine zg_aload_n X dX1_add_68 rfl ?_
      refine rg_Evidence_count X f1 l25 dX1_add_69 ?_
      refine zg_aload_n X dX1_add_72 rfl ?_
      refine zg_iload X dX1_add_73 rfl ?_
      refine zg_aload_n X dX1_add_75 rfl ?_
      refine rg_Evidence_count X f1 l25 dX1_add_76 ?_
      refine zg_callVi X (k_X1_seal l D ad T _ _ (σ.1 5) (by omega)) zFr.rf gX1_add_X1_seal rfl rfl rfl qv_X1_seal rfl ⟨Nat.le_of_ble_eq_true rfl, Nat.le_of_ble_eq_true rfl⟩ (q0 := 6) (ci := 3) rfl rfl rfl (Nat.le_of_ble_eq_true rfl) ⟨Nat.le_of_ble_eq_true rfl, Nat.le_of_ble_eq_true rfl⟩ dX1_add_79 (fun r w1 hz9 => ?_)
      obtain ⟨rfl, rfl⟩ := hz9
      refine zg_top ev_eq ?_
      refine rsC_seals X (show σ.1 5 < 99 by omega) dX1_add_82 ?_
      refine zg_aload_n X dX1_add_83 rfl ?_
      refine zg_dup X dX1_add_84 rfl ?_
      refine rg_Evidence_count X f1 l25 dX1_add_85 ?_
      refine zg_iconst X (v := 1) dX1_add_88 (by decide) ?_
      refine zg_iadd X dX1_add_89 ?_
      refine zg_top (nI_1 _) ?_
      refine rp_Evidence_count X f1 l25 dX1_add_90 ?_
      exact zg_vret X hr dX1_add_93 (Nat.le_of_ble_eq_true rfl) (Nat.le_of_ble_eq_true rfl) (by rw [evAdd, if_neg (show ¬ 99 ≤ σ.1 5 by omega), if_neg (show ¬ 0 < σ.1 5 by omega)]; rfl)
    · skip
      refine zg_aload_n X dX1_add_17 rfl ?_
      refine rg_Evidence_seals X f1 l22 dX1_add_18 ?_
      refine zg_aload_n X dX1_add_21 rfl ?_
      refine rg_Evidence_count X f1 l25 dX1_add_22 ?_
      refine zg_iconst X (v := 1) dX1_add_25 (by decide) ?_
      refine zg_isub X dX1_add_26 ?_
      refine zg_top (zsub1 (by omega)) ?_
      refine rlC_seals X (by omega) dX1_add_27 ?_
      refine zg_goto X dX1_add_28 (tgt := 32) (by decide) ?_
      refine zg_istore X dX1_add_32 (by decide) ?_
      refine zg_aload_n X dX1_add_34 rfl ?_
      refine rg_Evidence_signs X f1 l9 dX1_add_35 ?_
      refine zg_aload_n X dX1_add_38 rfl ?_
      refine rg_Evidence_count X f1 l25 dX1_add_39 ?_
      refine zg_iload_n X dX1_add_42 rfl ?_
      refine rsC_signs X (show σ.1 5 < 99 by omega) hsg dX1_add_43 ?_
      refine zg_aload_n X dX1_add_44 rfl ?_
      refine rg_Evidence_grants X f1 l15 dX1_add_45 ?_
      refine zg_aload_n X dX1_add_48 rfl ?_
      refine rg_Evidence_count X f1 l25 dX1_add_49 ?_
      refine zg_iload_n X dX1_add_52 rfl ?_
      refine rsC_evGrants X (show σ.1 5 < 99 by omega) dX1_add_53 ?_
      refine zg_aload_n X dX1_add_54 rfl ?_
      refine rg_Evidence_days X f1 l19 dX1_add_55 ?_
      refine zg_aload_n X dX1_add_58 rfl ?_
      refine rg_Evidence_count X f1 l25 dX1_add_59 ?_
      refine zg_iload_n X dX1_add_62 rfl ?_
      refine rsC_evDays X (show σ.1 5 < 99 by omega) dX1_add_63 ?_
      refine zg_aload_n X dX1_add_64 rfl ?_
      refine rg_Evidence_seals X f1 l22 dX1_add_65 ?_
      refine zg_aload_n X dX1_add_68 rfl ?_
      refine rg_Evidence_count X f1 l25 dX1_add_69 ?_
      refine zg_aload_n X dX1_add_72 rfl ?_
      refine zg_iload X dX1_add_73 rfl ?_
      refine zg_aload_n X dX1_add_75 rfl ?_
      refine rg_Evidence_count X f1 l25 dX1_add_76 ?_
      refine zg_callVi X (k_X1_seal l D ad T _ _ (σ.1 5) (by omega)) zFr.rf gX1_add_X1_seal rfl rfl rfl qv_X1_seal rfl ⟨Nat.le_of_ble_eq_true rfl, Nat.le_of_ble_eq_true rfl⟩ (q0 := 6) (ci := 3) rfl rfl rfl (Nat.le_of_ble_eq_true rfl) ⟨Nat.le_of_ble_eq_true rfl, Nat.le_of_ble_eq_true rfl⟩ dX1_add_79 (fun r w1 hz9 => ?_)
      obtain ⟨rfl, rfl⟩ := hz9
      refine zg_top ev_eq ?_
      refine rsC_seals X (show σ.1 5 < 99 by omega) dX1_add_82 ?_
      refine zg_aload_n X dX1_add_83 rfl ?_
      refine zg_dup X dX1_add_84 rfl ?_
      refine rg_Evidence_count X f1 l25 dX1_add_85 ?_
      refine zg_iconst X (v := 1) dX1_add_88 (by decide) ?_
      refine zg_iadd X dX1_add_89 ?_
      refine zg_top (nI_1 _) ?_
      refine rp_Evidence_count X f1 l25 dX1_add_90 ?_
      exact zg_vret X hr dX1_add_93 (Nat.le_of_ble_eq_true rfl) (Nat.le_of_ble_eq_true rfl) (by rw [evAdd, if_neg (show ¬ 99 ≤ σ.1 5 by omega), if_pos (show 0 < σ.1 5 by omega)]; rfl)
  · skip
    exact zg_vret X hr dX1_add_9 (Nat.le_of_ble_eq_true rfl) (Nat.le_of_ble_eq_true rfl) (by rw [evAdd, if_pos (by omega)])

set_option maxHeartbeats 4000000 in
set_option maxRecDepth 100000 in
theorem k_X1_replay (l : Launch) (D : va_G) (ad : Nat → Nat) (T : Nat → ClassId) (σ : ZS) (hB0 : zBd σ) (k : Nat) (hk : k < σ.1 5) : zM l yX1_replay wsX1_replay ({ frames := 1, cells := 0, slots := 0, locals := 24 }) D (zT T) [.ref (ad 6), .int (nI k)] (wC ad T σ) 0 0 (qI D (zT T) (fun r w => r = replI σ (k + 1) ∧ w = wC ad T σ)) := by
  have hB1 := hB0
  obtain ⟨b0, b1, b2, b3, b4, b5⟩ := hB1
  refine zg_of (cc := cX1_replay) (maxL := 4) (ret := (some .int)) (by decide) rfl (Nat.le_of_ble_eq_true rfl) (fun p e s m below meth c A hin hr X => ?_)
  have X : zC p s m _ meth c cX1_replay 4 wsX1_replay RX1 D (zT T) A := X
  have f1 : ∀ w ∈ u_ws RX1 TX1 5, w ∈ wsX1_replay := by decide +kernel
  have l25 : Cond.fieldLink RX1 25 "Recertify$Evidence" "count" "I" ∈ wsX1_replay := by decide +kernel
  refine zg_iconst X (v := 0) dX1_replay_0 (by decide) ?_
  refine zg_istore_n X dX1_replay_1 (by decide) ?_
  refine zg_iconst X (v := 0) dX1_replay_2 (by decide) ?_
  refine zg_istore_n X dX1_replay_3 (by decide) ?_
  have LP4 : ∀ (fu : Nat) (i : Nat) (acc : Int32), (k + 1) + 1 ≤ i + fu → i ≤ (k + 1) → acc = fN (fun e acc => evSeal σ acc e) 0 i → zG p l e (headSpec wsX1_replay ({ frames := 1, cells := 0, slots := 0, locals := 24 })).room s m [.ref (ad 6), .int (nI k)].toArray below meth c D 4 A 0 0 (MQ below (qI D (zT T) (fun r w => r = replI σ (k + 1) ∧ w = wC ad T σ) A) [.ref (ad 6), .int (nI k)].toArray s 0 0 A) (wC ad T σ) 4 [(0, .ref (ad 6)), (1, .int (nI k)), (2, .int acc), (3, .int (nI i))] [] := by
    intro fu
    induction fu with
    | zero => intro i acc hfu hii _; exact absurd hfu (by omega)
    | succ fu ih4 =>
      intro i acc hfu hii hacc
      refine zg_iload_n X dX1_replay_4 rfl ?_
      refine zg_iload_n X dX1_replay_5 rfl ?_
      refine zg_icmpn_gt X dX1_replay_6 (tgt := 30) (by decide) (a := i) (b := k) (by omega) (by omega) (fun c_6 => ?_) (fun c_6 => ?_)
      · skip
        refine zg_iload_n X dX1_replay_30 rfl ?_
        exact zg_iret X hr dX1_replay_31 (Nat.le_of_ble_eq_true rfl) (Nat.le_of_ble_eq_true rfl) (⟨by rw [hacc, replI, show i = k + 1 by omega], rfl⟩)
      · skip
        refine zg_iload_n X dX1_replay_9 rfl ?_
        refine zg_aload_n X dX1_replay_10 rfl ?_
        refine rg_Evidence_count X f1 l25 dX1_replay_11 ?_
        refine zg_icmpn_ge X dX1_replay_14 (tgt := 30) (by decide) (a := i) (b := σ.1 5) (by omega) (by omega) (fun c_14 => absurd c_14 (by omega)) (fun c_14 => ?_)
        refine zg_aload_n X dX1_replay_17 rfl ?_
        refine zg_iload_n X dX1_replay_18 rfl ?_
        refine zg_iload_n X dX1_replay_19 rfl ?_
        refine zg_callVi X (k_X1_seal l D ad T _ acc i (by omega)) zFr.rf gX1_replay_X1_seal rfl rfl rfl qv_X1_seal rfl ⟨Nat.le_of_ble_eq_true rfl, Nat.le_of_ble_eq_true rfl⟩ (q0 := 6) (ci := 3) rfl rfl rfl (Nat.le_of_ble_eq_true rfl) ⟨Nat.le_of_ble_eq_true rfl, Nat.le_of_ble_eq_true rfl⟩ dX1_replay_20 (fun r w1 hz9 => ?_)
        obtain ⟨rfl, rfl⟩ := hz9
        refine zg_istore_n X dX1_replay_23 (by decide) ?_
        refine zg_iinc1 X dX1_replay_24 (by decide) rfl ?_
        refine zg_goto X dX1_replay_27 (tgt := 4) (by decide) ?_
        exact zg_lv (by exact ⟨rfl, rfl, rfl, rfl, trivial⟩) (ih4 (i + 1) _ (by omega) (by omega) (by rw [fN, ← hacc]))
  exact zg_lv (by exact ⟨rfl, rfl, rfl, rfl, trivial⟩) (LP4 ((k + 1) + 1) 0 _ (by omega) (by omega) rfl)

set_option maxHeartbeats 4000000 in
set_option maxRecDepth 100000 in
theorem k_X0_open (l : Launch) (D : va_G) (ad : Nat → Nat) (T : Nat → ClassId) (σ : ZS) (dl : Int32) : zM l yX0_open wsX0_open ({ frames := 0, cells := 0, slots := 0, locals := 0 }) D (zT T) [.ref (ad 5), .int dl] (wC ad T σ) 0 0 (qV D (zT T) (fun w => w = wC ad T (uC (uC (uN σ 3 dl) 4 0) 6 0))) := by
  refine zg_of (cc := cX0_open) (maxL := 2) (ret := none) (by decide) rfl (Nat.le_of_ble_eq_true rfl) (fun p e s m below meth c A hin hr X => ?_)
  have X : zC p s m _ meth c cX0_open 2 wsX0_open RX0 D (zT T) A := X
  have f0 : ∀ w ∈ u_ws RX0 TX0 8, w ∈ wsX0_open := by decide +kernel
  have l22 : Cond.fieldLink RX0 22 "Recertify$Campaign" "count" "I" ∈ wsX0_open := by decide +kernel
  have l26 : Cond.fieldLink RX0 26 "Recertify$Campaign" "undecided" "I" ∈ wsX0_open := by decide +kernel
  have l29 : Cond.fieldLink RX0 29 "Recertify$Campaign" "deadline" "I" ∈ wsX0_open := by decide +kernel
  refine zg_aload_n X dX0_open_0 rfl ?_
  refine zg_iload_n X dX0_open_1 rfl ?_
  refine rp_Campaign_deadline X f0 l29 dX0_open_2 ?_
  refine zg_aload_n X dX0_open_5 rfl ?_
  refine zg_iconst X (v := 0) dX0_open_6 (by decide) ?_
  refine rp_Campaign_count X (v := 0) f0 l22 dX0_open_7 ?_
  refine zg_aload_n X dX0_open_10 rfl ?_
  refine zg_iconst X (v := 0) dX0_open_11 (by decide) ?_
  refine rp_Campaign_undecided X (v := 0) f0 l26 dX0_open_12 ?_
  exact zg_vret X hr dX0_open_15 (Nat.le_of_ble_eq_true rfl) (Nat.le_of_ble_eq_true rfl) (rfl)

set_option maxHeartbeats 4000000 in
set_option maxRecDepth 100000 in
theorem k_X0_addItem (l : Launch) (D : va_G) (ad : Nat → Nat) (T : Nat → ClassId) (σ : ZS) (g : Int32) (hlt : σ.1 4 < 24) : zM l yX0_addItem wsX0_addItem ({ frames := 0, cells := 0, slots := 0, locals := 0 }) D (zT T) [.ref (ad 5), .int g] (wC ad T σ) 0 0 (qV D (zT T) (fun w => w = wC ad T (addIt σ g))) := by
  refine zg_of (cc := cX0_addItem) (maxL := 2) (ret := none) (by decide) rfl (Nat.le_of_ble_eq_true rfl) (fun p e s m below meth c A hin hr X => ?_)
  have X : zC p s m _ meth c cX0_addItem 2 wsX0_addItem RX0 D (zT T) A := X
  have f0 : ∀ w ∈ u_ws RX0 TX0 8, w ∈ wsX0_addItem := by decide +kernel
  have l15 : Cond.fieldLink RX0 15 "Recertify$Campaign" "verdicts" "[C" ∈ wsX0_addItem := by decide +kernel
  have l22 : Cond.fieldLink RX0 22 "Recertify$Campaign" "count" "I" ∈ wsX0_addItem := by decide +kernel
  have l26 : Cond.fieldLink RX0 26 "Recertify$Campaign" "undecided" "I" ∈ wsX0_addItem := by decide +kernel
  have l9 : Cond.fieldLink RX0 9 "Recertify$Campaign" "grants" "[I" ∈ wsX0_addItem := by decide +kernel
  refine zg_aload_n X dX0_addItem_0 rfl ?_
  refine rg_Campaign_count X f0 l22 dX0_addItem_1 ?_
  refine zg_bipush X (v := 24) dX0_addItem_4 (by decide) ?_
  refine zg_icmpn_ge X dX0_addItem_6 (tgt := 50) (by decide) (a := σ.1 4) (b := 24) (by omega) (by omega) (fun c_6 => absurd c_6 (by omega)) (fun c_6 => ?_)
  refine zg_aload_n X dX0_addItem_9 rfl ?_
  refine rg_Campaign_grants X f0 l9 dX0_addItem_10 ?_
  refine zg_aload_n X dX0_addItem_13 rfl ?_
  refine rg_Campaign_count X f0 l22 dX0_addItem_14 ?_
  refine zg_iload_n X dX0_addItem_17 rfl ?_
  refine rsC_itemGrants X hlt dX0_addItem_18 ?_
  refine zg_aload_n X dX0_addItem_19 rfl ?_
  refine rg_Campaign_verdicts X f0 l15 dX0_addItem_20 ?_
  refine zg_aload_n X dX0_addItem_23 rfl ?_
  refine rg_Campaign_count X f0 l22 dX0_addItem_24 ?_
  refine zg_bipush X (v := 117) dX0_addItem_27 (by decide) ?_
  refine rsC_verdicts X hlt rfl dX0_addItem_29 ?_
  refine zg_aload_n X dX0_addItem_30 rfl ?_
  refine zg_dup X dX0_addItem_31 rfl ?_
  refine rg_Campaign_count X f0 l22 dX0_addItem_32 ?_
  refine zg_iconst X (v := 1) dX0_addItem_35 (by decide) ?_
  refine zg_iadd X dX0_addItem_36 ?_
  refine zg_top (nI_1 _) ?_
  refine rp_Campaign_count X f0 l22 dX0_addItem_37 ?_
  refine zg_aload_n X dX0_addItem_40 rfl ?_
  refine zg_dup X dX0_addItem_41 rfl ?_
  refine rg_Campaign_undecided X f0 l26 dX0_addItem_42 ?_
  refine zg_iconst X (v := 1) dX0_addItem_45 (by decide) ?_
  refine zg_iadd X dX0_addItem_46 ?_
  refine zg_top (nI_1 _) ?_
  refine rp_Campaign_undecided X f0 l26 dX0_addItem_47 ?_
  exact zg_vret X hr dX0_addItem_50 (Nat.le_of_ble_eq_true rfl) (Nat.le_of_ble_eq_true rfl) (rfl)

set_option maxHeartbeats 4000000 in
set_option maxRecDepth 100000 in
theorem k_X0_settle (l : Launch) (D : va_G) (ad : Nat → Nat) (T : Nat → ClassId) (σ : ZS) (i0 : Nat) (vd dc : Int32) (hi : i0 < 24) (hu : 0 < σ.1 6) (hvd : vp_nar .char vd = vd) : zM l yX0_settle wsX0_settle ({ frames := 0, cells := 0, slots := 0, locals := 0 }) D (zT T) [.ref (ad 5), .int (nI i0), .int vd, .int dc] (wC ad T σ) 0 0 (qV D (zT T) (fun w => w = wC ad T (settle σ i0 vd dc))) := by
  refine zg_of (cc := cX0_settle) (maxL := 4) (ret := none) (by decide) rfl (Nat.le_of_ble_eq_true rfl) (fun p e s m below meth c A hin hr X => ?_)
  have X : zC p s m _ meth c cX0_settle 4 wsX0_settle RX0 D (zT T) A := X
  have f0 : ∀ w ∈ u_ws RX0 TX0 8, w ∈ wsX0_settle := by decide +kernel
  have l15 : Cond.fieldLink RX0 15 "Recertify$Campaign" "verdicts" "[C" ∈ wsX0_settle := by decide +kernel
  have l19 : Cond.fieldLink RX0 19 "Recertify$Campaign" "deciders" "[I" ∈ wsX0_settle := by decide +kernel
  have l26 : Cond.fieldLink RX0 26 "Recertify$Campaign" "undecided" "I" ∈ wsX0_settle := by decide +kernel
  have l32 : Cond.fieldLink RX0 32 "Recertify$Campaign" "everDecided" "I" ∈ wsX0_settle := by decide +kernel
  have l35 : Cond.fieldLink RX0 35 "Recertify$Campaign" "everRevoked" "I" ∈ wsX0_settle := by decide +kernel
  refine zg_aload_n X dX0_settle_0 rfl ?_
  refine rg_Campaign_verdicts X f0 l15 dX0_settle_1 ?_
  refine zg_iload_n X dX0_settle_4 rfl ?_
  refine zg_iload_n X dX0_settle_5 rfl ?_
  refine rsC_verdicts X (by omega) hvd dX0_settle_6 ?_
  refine zg_aload_n X dX0_settle_7 rfl ?_
  refine rg_Campaign_deciders X f0 l19 dX0_settle_8 ?_
  refine zg_iload_n X dX0_settle_11 rfl ?_
  refine zg_iload_n X dX0_settle_12 rfl ?_
  refine rsC_deciders X (by omega) dX0_settle_13 ?_
  refine zg_aload_n X dX0_settle_14 rfl ?_
  refine zg_dup X dX0_settle_15 rfl ?_
  refine rg_Campaign_undecided X f0 l26 dX0_settle_16 ?_
  refine zg_iconst X (v := 1) dX0_settle_19 (by decide) ?_
  refine zg_isub X dX0_settle_20 ?_
  refine zg_top (zsub1 hu) ?_
  refine rp_Campaign_undecided X f0 l26 dX0_settle_21 ?_
  refine zg_aload_n X dX0_settle_24 rfl ?_
  refine zg_dup X dX0_settle_25 rfl ?_
  refine rg_Campaign_everDecided X f0 l32 dX0_settle_26 ?_
  refine zg_iconst X (v := 1) dX0_settle_29 (by decide) ?_
  refine zg_iadd X dX0_settle_30 ?_
  refine rp_Campaign_everDecided X f0 l32 dX0_settle_31 ?_
  refine zg_iload_n X dX0_settle_34 rfl ?_
  refine zg_bipush X (v := 114) dX0_settle_35 (by decide) ?_
  refine zg_icmp_ne X dX0_settle_37 (tgt := 50) (by decide) (fun c_37 => ?_) (fun c_37 => ?_)
  · skip
    exact zg_vret X hr dX0_settle_50 (Nat.le_of_ble_eq_true rfl) (Nat.le_of_ble_eq_true rfl) (by rw [settle, if_neg c_37]; rfl)
  · skip
    refine zg_aload_n X dX0_settle_40 rfl ?_
    refine zg_dup X dX0_settle_41 rfl ?_
    refine rg_Campaign_everRevoked X f0 l35 dX0_settle_42 ?_
    refine zg_iconst X (v := 1) dX0_settle_45 (by decide) ?_
    refine zg_iadd X dX0_settle_46 ?_
    refine rp_Campaign_everRevoked X f0 l35 dX0_settle_47 ?_
    exact zg_vret X hr dX0_settle_50 (Nat.le_of_ble_eq_true rfl) (Nat.le_of_ble_eq_true rfl) (by rw [settle, if_pos c_37]; rfl)
