/-! rows of methods, laid by a program of mine (wip/whole/walk.py) out of the bytecode and annotations -/
theorem qd_X0_has : yX0_has.cls ≠ "java/lang/invoke/MethodHandle" ∧ yX0_has.cls ≠ "java/lang/invoke/VarHandle" ∧ (parseMethodDescriptor yX0_has.desc).map (fun d => d.parameters.length) = some 1 := by decide +kernel
theorem qv_X0_has : yX0_has.cls = RX0 ∧ yX0_has.cls ≠ "java/lang/invoke/MethodHandle" ∧ yX0_has.cls ≠ "java/lang/invoke/VarHandle" ∧ (parseMethodDescriptor yX0_has.desc).map (fun d => d.parameters.length) = some 1 := ⟨rfl, qd_X0_has⟩
theorem qd_X1_has : yX1_has.cls ≠ "java/lang/invoke/MethodHandle" ∧ yX1_has.cls ≠ "java/lang/invoke/VarHandle" ∧ (parseMethodDescriptor yX1_has.desc).map (fun d => d.parameters.length) = some 1 := by decide +kernel
theorem qv_X1_has : yX1_has.cls = RX1 ∧ yX1_has.cls ≠ "java/lang/invoke/MethodHandle" ∧ yX1_has.cls ≠ "java/lang/invoke/VarHandle" ∧ (parseMethodDescriptor yX1_has.desc).map (fun d => d.parameters.length) = some 1 := ⟨rfl, qd_X1_has⟩
theorem qd_X2_has : yX2_has.cls ≠ "java/lang/invoke/MethodHandle" ∧ yX2_has.cls ≠ "java/lang/invoke/VarHandle" ∧ (parseMethodDescriptor yX2_has.desc).map (fun d => d.parameters.length) = some 1 := by decide +kernel
theorem qv_X2_has : yX2_has.cls = RX2 ∧ yX2_has.cls ≠ "java/lang/invoke/MethodHandle" ∧ yX2_has.cls ≠ "java/lang/invoke/VarHandle" ∧ (parseMethodDescriptor yX2_has.desc).map (fun d => d.parameters.length) = some 1 := ⟨rfl, qd_X2_has⟩
theorem qd_X3_has : yX3_has.cls ≠ "java/lang/invoke/MethodHandle" ∧ yX3_has.cls ≠ "java/lang/invoke/VarHandle" ∧ (parseMethodDescriptor yX3_has.desc).map (fun d => d.parameters.length) = some 1 := by decide +kernel
theorem qv_X3_has : yX3_has.cls = RX3 ∧ yX3_has.cls ≠ "java/lang/invoke/MethodHandle" ∧ yX3_has.cls ≠ "java/lang/invoke/VarHandle" ∧ (parseMethodDescriptor yX3_has.desc).map (fun d => d.parameters.length) = some 1 := ⟨rfl, qd_X3_has⟩
theorem qd_X4_add : yX4_add.cls ≠ "java/lang/invoke/MethodHandle" ∧ yX4_add.cls ≠ "java/lang/invoke/VarHandle" ∧ (parseMethodDescriptor yX4_add.desc).map (fun d => d.parameters.length) = some 2 := by decide +kernel
theorem qv_X4_add : yX4_add.cls = RX4 ∧ yX4_add.cls ≠ "java/lang/invoke/MethodHandle" ∧ yX4_add.cls ≠ "java/lang/invoke/VarHandle" ∧ (parseMethodDescriptor yX4_add.desc).map (fun d => d.parameters.length) = some 2 := ⟨rfl, qd_X4_add⟩
theorem qd_X4_findPeers : yX4_findPeers.cls ≠ "java/lang/invoke/MethodHandle" ∧ yX4_findPeers.cls ≠ "java/lang/invoke/VarHandle" ∧ (parseMethodDescriptor yX4_findPeers.desc).map (fun d => d.parameters.length) = some 1 := by decide +kernel
theorem qv_X4_findPeers : yX4_findPeers.cls = RX4 ∧ yX4_findPeers.cls ≠ "java/lang/invoke/MethodHandle" ∧ yX4_findPeers.cls ≠ "java/lang/invoke/VarHandle" ∧ (parseMethodDescriptor yX4_findPeers.desc).map (fun d => d.parameters.length) = some 1 := ⟨rfl, qd_X4_findPeers⟩
theorem qd_X4_firstPresent : yX4_firstPresent.cls ≠ "java/lang/invoke/MethodHandle" ∧ yX4_firstPresent.cls ≠ "java/lang/invoke/VarHandle" ∧ (parseMethodDescriptor yX4_firstPresent.desc).map (fun d => d.parameters.length) = some 1 := by decide +kernel
theorem qv_X4_firstPresent : yX4_firstPresent.cls = RX4 ∧ yX4_firstPresent.cls ≠ "java/lang/invoke/MethodHandle" ∧ yX4_firstPresent.cls ≠ "java/lang/invoke/VarHandle" ∧ (parseMethodDescriptor yX4_firstPresent.desc).map (fun d => d.parameters.length) = some 1 := ⟨rfl, qd_X4_firstPresent⟩
theorem qd_X4_has : yX4_has.cls ≠ "java/lang/invoke/MethodHandle" ∧ yX4_has.cls ≠ "java/lang/invoke/VarHandle" ∧ (parseMethodDescriptor yX4_has.desc).map (fun d => d.parameters.length) = some 1 := by decide +kernel
theorem qv_X4_has : yX4_has.cls = RX4 ∧ yX4_has.cls ≠ "java/lang/invoke/MethodHandle" ∧ yX4_has.cls ≠ "java/lang/invoke/VarHandle" ∧ (parseMethodDescriptor yX4_has.desc).map (fun d => d.parameters.length) = some 1 := ⟨rfl, qd_X4_has⟩
theorem qd_X5_has : yX5_has.cls ≠ "java/lang/invoke/MethodHandle" ∧ yX5_has.cls ≠ "java/lang/invoke/VarHandle" ∧ (parseMethodDescriptor yX5_has.desc).map (fun d => d.parameters.length) = some 1 := by decide +kernel
theorem qv_X5_has : yX5_has.cls = RX5 ∧ yX5_has.cls ≠ "java/lang/invoke/MethodHandle" ∧ yX5_has.cls ≠ "java/lang/invoke/VarHandle" ∧ (parseMethodDescriptor yX5_has.desc).map (fun d => d.parameters.length) = some 1 := ⟨rfl, qd_X5_has⟩
theorem qd_X6_bit : yX6_bit.cls ≠ "java/lang/invoke/MethodHandle" ∧ yX6_bit.cls ≠ "java/lang/invoke/VarHandle" ∧ (parseMethodDescriptor yX6_bit.desc).map (fun d => d.parameters.length) = some 1 := by decide +kernel
theorem qv_X6_bit : yX6_bit.cls = RX6 ∧ yX6_bit.cls ≠ "java/lang/invoke/MethodHandle" ∧ yX6_bit.cls ≠ "java/lang/invoke/VarHandle" ∧ (parseMethodDescriptor yX6_bit.desc).map (fun d => d.parameters.length) = some 1 := ⟨rfl, qd_X6_bit⟩
theorem qd_X6_contains : yX6_contains.cls ≠ "java/lang/invoke/MethodHandle" ∧ yX6_contains.cls ≠ "java/lang/invoke/VarHandle" ∧ (parseMethodDescriptor yX6_contains.desc).map (fun d => d.parameters.length) = some 2 := by decide +kernel
theorem qv_X6_contains : yX6_contains.cls = RX6 ∧ yX6_contains.cls ≠ "java/lang/invoke/MethodHandle" ∧ yX6_contains.cls ≠ "java/lang/invoke/VarHandle" ∧ (parseMethodDescriptor yX6_contains.desc).map (fun d => d.parameters.length) = some 2 := ⟨rfl, qd_X6_contains⟩
theorem qd_X6_findLowest : yX6_findLowest.cls ≠ "java/lang/invoke/MethodHandle" ∧ yX6_findLowest.cls ≠ "java/lang/invoke/VarHandle" ∧ (parseMethodDescriptor yX6_findLowest.desc).map (fun d => d.parameters.length) = some 2 := by decide +kernel
theorem qv_X6_findLowest : yX6_findLowest.cls = RX6 ∧ yX6_findLowest.cls ≠ "java/lang/invoke/MethodHandle" ∧ yX6_findLowest.cls ≠ "java/lang/invoke/VarHandle" ∧ (parseMethodDescriptor yX6_findLowest.desc).map (fun d => d.parameters.length) = some 2 := ⟨rfl, qd_X6_findLowest⟩
set_option maxHeartbeats 4000000 in
set_option maxRecDepth 100000 in
theorem k_X6_bit (l : Launch) (D : va_G) (ad : Nat → Nat) (T : Nat → ClassId) (σ : ZS) (j : Nat) : zM l yX6_bit wsX6_bit ({ frames := 0, cells := 0, slots := 0, locals := 0 }) D (zT T) [.int (nI j)] (wC ad T σ) 0 0 (qI D (zT T) (fun r w => r = bt1 j ∧ w = wC ad T σ)) := by
  refine zg_of (cc := cX6_bit) (maxL := 1) (ret := (some .int)) (by decide) rfl (Nat.le_of_ble_eq_true rfl) (fun p e s m below meth c A hin hr X => ?_)
  have X : zC p s m _ meth c cX6_bit 1 wsX6_bit RX6 D (zT T) A := X
  refine zg_iconst X (v := 1) dX6_bit_0 (by decide) ?_
  refine zg_iload_n X dX6_bit_1 rfl ?_
  refine zg_ishl X dX6_bit_2 ?_
  exact zg_iret X hr dX6_bit_3 (Nat.le_of_ble_eq_true rfl) (Nat.le_of_ble_eq_true rfl) (⟨rfl, rfl⟩)

set_option maxHeartbeats 4000000 in
set_option maxRecDepth 100000 in
theorem k_X6_contains (l : Launch) (D : va_G) (ad : Nat → Nat) (T : Nat → ClassId) (σ : ZS) (x : Int32) (j : Nat) : zM l yX6_contains wsX6_contains ({ frames := 1, cells := 0, slots := 0, locals := 20 }) D (zT T) [.int x, .int (nI j)] (wC ad T σ) 0 0 (qI D (zT T) (fun r w => r = bI (hB x j) ∧ w = wC ad T σ)) := by
  refine zg_of (cc := cX6_contains) (maxL := 2) (ret := (some .boolean)) (by decide) rfl (Nat.le_of_ble_eq_true rfl) (fun p e s m below meth c A hin hr X => ?_)
  have X : zC p s m _ meth c cX6_contains 2 wsX6_contains RX6 D (zT T) A := X
  refine zg_iload_n X dX6_contains_0 rfl ?_
  refine zg_iload_n X dX6_contains_1 rfl ?_
  refine zg_callSi X (k_X6_bit l D ad T _ j) zFr.rf gX6_contains_X6_bit rfl rfl rfl qd_X6_bit rfl ⟨Nat.le_of_ble_eq_true rfl, Nat.le_of_ble_eq_true rfl⟩ rfl (Nat.le_of_ble_eq_true rfl) ⟨Nat.le_of_ble_eq_true rfl, Nat.le_of_ble_eq_true rfl⟩ dX6_contains_2 (fun r w1 hz9 => ?_)
  obtain ⟨rfl, rfl⟩ := hz9
  refine zg_iand X dX6_contains_5 ?_
  refine zg_if_eq X dX6_contains_6 (tgt := 13) (by decide) (fun c_6 => ?_) (fun c_6 => ?_)
  · skip
    refine zg_iconst X (v := 0) dX6_contains_13 (by decide) ?_
    exact zg_nret X hr (rfl) dX6_contains_14 (Nat.le_of_ble_eq_true rfl) (Nat.le_of_ble_eq_true rfl) (⟨(bI_f (fun h => h c_6)).symm, rfl⟩)
  · skip
    refine zg_iconst X (v := 1) dX6_contains_9 (by decide) ?_
    refine zg_goto X dX6_contains_10 (tgt := 14) (by decide) ?_
    exact zg_nret X hr (rfl) dX6_contains_14 (Nat.le_of_ble_eq_true rfl) (Nat.le_of_ble_eq_true rfl) (⟨(bI_t c_6).symm, rfl⟩)

set_option maxHeartbeats 4000000 in
set_option maxRecDepth 100000 in
theorem k_X6_findLowest (l : Launch) (D : va_G) (ad : Nat → Nat) (T : Nat → ClassId) (σ : ZS) (x : Int32) (n : Nat) (hn : n ≤ 100) : zM l yX6_findLowest wsX6_findLowest ({ frames := 2, cells := 0, slots := 0, locals := 41 }) D (zT T) [.int x, .int (nI n)] (wC ad T σ) 0 0 (qI D (zT T) (fun r w => r = lowI x n ∧ w = wC ad T σ)) := by
  refine zg_of (cc := cX6_findLowest) (maxL := 3) (ret := (some .int)) (by decide) rfl (Nat.le_of_ble_eq_true rfl) (fun p e s m below meth c A hin hr X => ?_)
  have X : zC p s m _ meth c cX6_findLowest 3 wsX6_findLowest RX6 D (zT T) A := X
  refine zg_iconst X (v := 0) dX6_findLowest_0 (by decide) ?_
  refine zg_istore_n X dX6_findLowest_1 (by decide) ?_
  have LP2 : ∀ (fu : Nat) (i : Nat), n + 1 ≤ i + fu → i ≤ n → (∀ a, a < i → ¬ hB x a) → zG p l e (headSpec wsX6_findLowest ({ frames := 2, cells := 0, slots := 0, locals := 41 })).room s m [.int x, .int (nI n)].toArray below meth c D 3 A 0 0 (MQ below (qI D (zT T) (fun r w => r = lowI x n ∧ w = wC ad T σ) A) [.int x, .int (nI n)].toArray s 0 0 A) (wC ad T σ) 2 [(2, .int (nI i)), (1, .int (nI n)), (0, .int x)] [] := by
    intro fu
    induction fu with
    | zero => intro i hfu hii _; exact absurd hfu (by omega)
    | succ fu ih2 =>
      intro i hfu hii hq
      refine zg_iload_n X dX6_findLowest_2 rfl ?_
      refine zg_iload_n X dX6_findLowest_3 rfl ?_
      refine zg_icmpn_ge X dX6_findLowest_4 (tgt := 23) (by decide) (b := n) (by omega) (by omega) (fun c_4 => ?_) (fun c_4 => ?_)
      · skip
        refine zg_iconst X (v := (-1)) dX6_findLowest_23 (by decide) ?_
        exact zg_iret X hr dX6_findLowest_24 (Nat.le_of_ble_eq_true rfl) (Nat.le_of_ble_eq_true rfl) (⟨(lowI_none (fun a ha => hq a (by omega))).symm, rfl⟩)
      · skip
        refine zg_iload_n X dX6_findLowest_7 rfl ?_
        refine zg_iload_n X dX6_findLowest_8 rfl ?_
        refine zg_callSi X (k_X6_contains l D ad T _ x i) zFr.rf gX6_findLowest_X6_contains rfl rfl rfl qd_X6_contains rfl ⟨Nat.le_of_ble_eq_true rfl, Nat.le_of_ble_eq_true rfl⟩ rfl (Nat.le_of_ble_eq_true rfl) ⟨Nat.le_of_ble_eq_true rfl, Nat.le_of_ble_eq_true rfl⟩ dX6_findLowest_9 (fun r w1 hz9 => ?_)
        obtain ⟨rfl, rfl⟩ := hz9
        refine zg_if_eqb X dX6_findLowest_12 (tgt := 17) (by decide) (fun c_12 => ?_) (fun c_12 => ?_)
        · skip
          refine zg_iinc1 X dX6_findLowest_17 (by decide) rfl ?_
          refine zg_goto X dX6_findLowest_20 (tgt := 2) (by decide) ?_
          exact zg_lv (by exact ⟨rfl, rfl, rfl, trivial⟩) (ih2 (i + 1) (by omega) (by omega) (lt_s hq c_12))
        · skip
          refine zg_iload_n X dX6_findLowest_15 rfl ?_
          exact zg_iret X hr dX6_findLowest_16 (Nat.le_of_ble_eq_true rfl) (Nat.le_of_ble_eq_true rfl) (⟨(lowI_some (by omega) c_12 hq).symm, rfl⟩)
  exact zg_lv (by exact ⟨rfl, rfl, rfl, trivial⟩) (LP2 (n + 1) 0 (by omega) (by omega) (fun a ha => absurd ha (Nat.not_lt_zero a)))

set_option maxHeartbeats 4000000 in
set_option maxRecDepth 100000 in
theorem k_X4_has (l : Launch) (D : va_G) (ad : Nat → Nat) (T : Nat → ClassId) (σ : ZS) (hB0 : zBd σ) (x : Int32) : zM l yX4_has wsX4_has ({ frames := 0, cells := 0, slots := 0, locals := 0 }) D (zT T) [.ref (ad 1), .int x] (wC ad T σ) 0 0 (qI D (zT T) (fun r w => r = bI (pIn x (σ.1 0)) ∧ w = wC ad T σ)) := by
  have hB1 := hB0
  obtain ⟨b0, b1, b2, b3, b4, b5⟩ := hB1
  refine zg_of (cc := cX4_has) (maxL := 2) (ret := (some .boolean)) (by decide) rfl (Nat.le_of_ble_eq_true rfl) (fun p e s m below meth c A hin hr X => ?_)
  have X : zC p s m _ meth c cX4_has 2 wsX4_has RX4 D (zT T) A := X
  have f4 : ∀ w ∈ u_ws RX4 TX4 5, w ∈ wsX4_has := by decide +kernel
  have l25 : Cond.fieldLink RX4 25 "Recertify$People" "count" "I" ∈ wsX4_has := by decide +kernel
  refine zg_iload_n X dX4_has_0 rfl ?_
  refine zg_if_lt X dX4_has_1 (tgt := 16) (by decide) (fun c_1 => ?_) (fun c_1 => ?_)
  · skip
    refine zg_iconst X (v := 0) dX4_has_16 (by decide) ?_
    exact zg_nret X hr (rfl) dX4_has_17 (Nat.le_of_ble_eq_true rfl) (Nat.le_of_ble_eq_true rfl) (⟨(bI_f (pIn_f1 c_1)).symm, rfl⟩)
  · skip
    refine zg_iload_n X dX4_has_4 rfl ?_
    refine zg_aload_n X dX4_has_5 rfl ?_
    refine rg_People_count X f4 l25 dX4_has_6 ?_
    refine zg_icmp_ge X dX4_has_9 (tgt := 16) (by decide) (fun c_9 => ?_) (fun c_9 => ?_)
    · skip
      refine zg_iconst X (v := 0) dX4_has_16 (by decide) ?_
      exact zg_nret X hr (rfl) dX4_has_17 (Nat.le_of_ble_eq_true rfl) (Nat.le_of_ble_eq_true rfl) (⟨(bI_f (pIn_f2 c_9)).symm, rfl⟩)
    · skip
      refine zg_iconst X (v := 1) dX4_has_12 (by decide) ?_
      refine zg_goto X dX4_has_13 (tgt := 17) (by decide) ?_
      exact zg_nret X hr (rfl) dX4_has_17 (Nat.le_of_ble_eq_true rfl) (Nat.le_of_ble_eq_true rfl) (⟨(bI_t (pIn_t c_1 c_9)).symm, rfl⟩)

set_option maxHeartbeats 4000000 in
set_option maxRecDepth 100000 in
theorem k_X3_has (l : Launch) (D : va_G) (ad : Nat → Nat) (T : Nat → ClassId) (σ : ZS) (hB0 : zBd σ) (x : Int32) : zM l yX3_has wsX3_has ({ frames := 0, cells := 0, slots := 0, locals := 0 }) D (zT T) [.ref (ad 2), .int x] (wC ad T σ) 0 0 (qI D (zT T) (fun r w => r = bI (pIn x (σ.1 1)) ∧ w = wC ad T σ)) := by
  have hB1 := hB0
  obtain ⟨b0, b1, b2, b3, b4, b5⟩ := hB1
  refine zg_of (cc := cX3_has) (maxL := 2) (ret := (some .boolean)) (by decide) rfl (Nat.le_of_ble_eq_true rfl) (fun p e s m below meth c A hin hr X => ?_)
  have X : zC p s m _ meth c cX3_has 2 wsX3_has RX3 D (zT T) A := X
  have f3 : ∀ w ∈ u_ws RX3 TX3 5, w ∈ wsX3_has := by decide +kernel
  have l24 : Cond.fieldLink RX3 24 "Recertify$Groups" "count" "I" ∈ wsX3_has := by decide +kernel
  refine zg_iload_n X dX3_has_0 rfl ?_
  refine zg_if_lt X dX3_has_1 (tgt := 16) (by decide) (fun c_1 => ?_) (fun c_1 => ?_)
  · skip
    refine zg_iconst X (v := 0) dX3_has_16 (by decide) ?_
    exact zg_nret X hr (rfl) dX3_has_17 (Nat.le_of_ble_eq_true rfl) (Nat.le_of_ble_eq_true rfl) (⟨(bI_f (pIn_f1 c_1)).symm, rfl⟩)
  · skip
    refine zg_iload_n X dX3_has_4 rfl ?_
    refine zg_aload_n X dX3_has_5 rfl ?_
    refine rg_Groups_count X f3 l24 dX3_has_6 ?_
    refine zg_icmp_ge X dX3_has_9 (tgt := 16) (by decide) (fun c_9 => ?_) (fun c_9 => ?_)
    · skip
      refine zg_iconst X (v := 0) dX3_has_16 (by decide) ?_
      exact zg_nret X hr (rfl) dX3_has_17 (Nat.le_of_ble_eq_true rfl) (Nat.le_of_ble_eq_true rfl) (⟨(bI_f (pIn_f2 c_9)).symm, rfl⟩)
    · skip
      refine zg_iconst X (v := 1) dX3_has_12 (by decide) ?_
      refine zg_goto X dX3_has_13 (tgt := 17) (by decide) ?_
      exact zg_nret X hr (rfl) dX3_has_17 (Nat.le_of_ble_eq_true rfl) (Nat.le_of_ble_eq_true rfl) (⟨(bI_t (pIn_t c_1 c_9)).symm, rfl⟩)

set_option maxHeartbeats 4000000 in
set_option maxRecDepth 100000 in
theorem k_X5_has (l : Launch) (D : va_G) (ad : Nat → Nat) (T : Nat → ClassId) (σ : ZS) (hB0 : zBd σ) (x : Int32) : zM l yX5_has wsX5_has ({ frames := 0, cells := 0, slots := 0, locals := 0 }) D (zT T) [.ref (ad 3), .int x] (wC ad T σ) 0 0 (qI D (zT T) (fun r w => r = bI (pIn x (σ.1 2)) ∧ w = wC ad T σ)) := by
  have hB1 := hB0
  obtain ⟨b0, b1, b2, b3, b4, b5⟩ := hB1
  refine zg_of (cc := cX5_has) (maxL := 2) (ret := (some .boolean)) (by decide) rfl (Nat.le_of_ble_eq_true rfl) (fun p e s m below meth c A hin hr X => ?_)
  have X : zC p s m _ meth c cX5_has 2 wsX5_has RX5 D (zT T) A := X
  have f5 : ∀ w ∈ u_ws RX5 TX5 5, w ∈ wsX5_has := by decide +kernel
  have l25 : Cond.fieldLink RX5 25 "Recertify$Rights" "count" "I" ∈ wsX5_has := by decide +kernel
  refine zg_iload_n X dX5_has_0 rfl ?_
  refine zg_if_lt X dX5_has_1 (tgt := 16) (by decide) (fun c_1 => ?_) (fun c_1 => ?_)
  · skip
    refine zg_iconst X (v := 0) dX5_has_16 (by decide) ?_
    exact zg_nret X hr (rfl) dX5_has_17 (Nat.le_of_ble_eq_true rfl) (Nat.le_of_ble_eq_true rfl) (⟨(bI_f (pIn_f1 c_1)).symm, rfl⟩)
  · skip
    refine zg_iload_n X dX5_has_4 rfl ?_
    refine zg_aload_n X dX5_has_5 rfl ?_
    refine rg_Rights_count X f5 l25 dX5_has_6 ?_
    refine zg_icmp_ge X dX5_has_9 (tgt := 16) (by decide) (fun c_9 => ?_) (fun c_9 => ?_)
    · skip
      refine zg_iconst X (v := 0) dX5_has_16 (by decide) ?_
      exact zg_nret X hr (rfl) dX5_has_17 (Nat.le_of_ble_eq_true rfl) (Nat.le_of_ble_eq_true rfl) (⟨(bI_f (pIn_f2 c_9)).symm, rfl⟩)
    · skip
      refine zg_iconst X (v := 1) dX5_has_12 (by decide) ?_
      refine zg_goto X dX5_has_13 (tgt := 17) (by decide) ?_
      exact zg_nret X hr (rfl) dX5_has_17 (Nat.le_of_ble_eq_true rfl) (Nat.le_of_ble_eq_true rfl) (⟨(bI_t (pIn_t c_1 c_9)).symm, rfl⟩)

set_option maxHeartbeats 4000000 in
set_option maxRecDepth 100000 in
theorem k_X2_has (l : Launch) (D : va_G) (ad : Nat → Nat) (T : Nat → ClassId) (σ : ZS) (hB0 : zBd σ) (x : Int32) : zM l yX2_has wsX2_has ({ frames := 0, cells := 0, slots := 0, locals := 0 }) D (zT T) [.ref (ad 4), .int x] (wC ad T σ) 0 0 (qI D (zT T) (fun r w => r = bI (pIn x (σ.1 3)) ∧ w = wC ad T σ)) := by
  have hB1 := hB0
  obtain ⟨b0, b1, b2, b3, b4, b5⟩ := hB1
  refine zg_of (cc := cX2_has) (maxL := 2) (ret := (some .boolean)) (by decide) rfl (Nat.le_of_ble_eq_true rfl) (fun p e s m below meth c A hin hr X => ?_)
  have X : zC p s m _ meth c cX2_has 2 wsX2_has RX2 D (zT T) A := X
  have f2 : ∀ w ∈ u_ws RX2 TX2 7, w ∈ wsX2_has := by decide +kernel
  have l31 : Cond.fieldLink RX2 31 "Recertify$Grants" "count" "I" ∈ wsX2_has := by decide +kernel
  refine zg_iload_n X dX2_has_0 rfl ?_
  refine zg_if_lt X dX2_has_1 (tgt := 16) (by decide) (fun c_1 => ?_) (fun c_1 => ?_)
  · skip
    refine zg_iconst X (v := 0) dX2_has_16 (by decide) ?_
    exact zg_nret X hr (rfl) dX2_has_17 (Nat.le_of_ble_eq_true rfl) (Nat.le_of_ble_eq_true rfl) (⟨(bI_f (pIn_f1 c_1)).symm, rfl⟩)
  · skip
    refine zg_iload_n X dX2_has_4 rfl ?_
    refine zg_aload_n X dX2_has_5 rfl ?_
    refine rg_Grants_count X f2 l31 dX2_has_6 ?_
    refine zg_icmp_ge X dX2_has_9 (tgt := 16) (by decide) (fun c_9 => ?_) (fun c_9 => ?_)
    · skip
      refine zg_iconst X (v := 0) dX2_has_16 (by decide) ?_
      exact zg_nret X hr (rfl) dX2_has_17 (Nat.le_of_ble_eq_true rfl) (Nat.le_of_ble_eq_true rfl) (⟨(bI_f (pIn_f2 c_9)).symm, rfl⟩)
    · skip
      refine zg_iconst X (v := 1) dX2_has_12 (by decide) ?_
      refine zg_goto X dX2_has_13 (tgt := 17) (by decide) ?_
      exact zg_nret X hr (rfl) dX2_has_17 (Nat.le_of_ble_eq_true rfl) (Nat.le_of_ble_eq_true rfl) (⟨(bI_t (pIn_t c_1 c_9)).symm, rfl⟩)

set_option maxHeartbeats 4000000 in
set_option maxRecDepth 100000 in
theorem k_X0_has (l : Launch) (D : va_G) (ad : Nat → Nat) (T : Nat → ClassId) (σ : ZS) (hB0 : zBd σ) (x : Int32) : zM l yX0_has wsX0_has ({ frames := 0, cells := 0, slots := 0, locals := 0 }) D (zT T) [.ref (ad 5), .int x] (wC ad T σ) 0 0 (qI D (zT T) (fun r w => r = bI (pIn x (σ.1 4)) ∧ w = wC ad T σ)) := by
  have hB1 := hB0
  obtain ⟨b0, b1, b2, b3, b4, b5⟩ := hB1
  refine zg_of (cc := cX0_has) (maxL := 2) (ret := (some .boolean)) (by decide) rfl (Nat.le_of_ble_eq_true rfl) (fun p e s m below meth c A hin hr X => ?_)
  have X : zC p s m _ meth c cX0_has 2 wsX0_has RX0 D (zT T) A := X
  have f0 : ∀ w ∈ u_ws RX0 TX0 8, w ∈ wsX0_has := by decide +kernel
  have l22 : Cond.fieldLink RX0 22 "Recertify$Campaign" "count" "I" ∈ wsX0_has := by decide +kernel
  refine zg_iload_n X dX0_has_0 rfl ?_
  refine zg_if_lt X dX0_has_1 (tgt := 16) (by decide) (fun c_1 => ?_) (fun c_1 => ?_)
  · skip
    refine zg_iconst X (v := 0) dX0_has_16 (by decide) ?_
    exact zg_nret X hr (rfl) dX0_has_17 (Nat.le_of_ble_eq_true rfl) (Nat.le_of_ble_eq_true rfl) (⟨(bI_f (pIn_f1 c_1)).symm, rfl⟩)
  · skip
    refine zg_iload_n X dX0_has_4 rfl ?_
    refine zg_aload_n X dX0_has_5 rfl ?_
    refine rg_Campaign_count X f0 l22 dX0_has_6 ?_
    refine zg_icmp_ge X dX0_has_9 (tgt := 16) (by decide) (fun c_9 => ?_) (fun c_9 => ?_)
    · skip
      refine zg_iconst X (v := 0) dX0_has_16 (by decide) ?_
      exact zg_nret X hr (rfl) dX0_has_17 (Nat.le_of_ble_eq_true rfl) (Nat.le_of_ble_eq_true rfl) (⟨(bI_f (pIn_f2 c_9)).symm, rfl⟩)
    · skip
      refine zg_iconst X (v := 1) dX0_has_12 (by decide) ?_
      refine zg_goto X dX0_has_13 (tgt := 17) (by decide) ?_
      exact zg_nret X hr (rfl) dX0_has_17 (Nat.le_of_ble_eq_true rfl) (Nat.le_of_ble_eq_true rfl) (⟨(bI_t (pIn_t c_1 c_9)).symm, rfl⟩)

set_option maxHeartbeats 4000000 in
set_option maxRecDepth 100000 in
theorem k_X1_has (l : Launch) (D : va_G) (ad : Nat → Nat) (T : Nat → ClassId) (σ : ZS) (hB0 : zBd σ) (x : Int32) : zM l yX1_has wsX1_has ({ frames := 0, cells := 0, slots := 0, locals := 0 }) D (zT T) [.ref (ad 6), .int x] (wC ad T σ) 0 0 (qI D (zT T) (fun r w => r = bI (pIn x (σ.1 5)) ∧ w = wC ad T σ)) := by
  have hB1 := hB0
  obtain ⟨b0, b1, b2, b3, b4, b5⟩ := hB1
  refine zg_of (cc := cX1_has) (maxL := 2) (ret := (some .boolean)) (by decide) rfl (Nat.le_of_ble_eq_true rfl) (fun p e s m below meth c A hin hr X => ?_)
  have X : zC p s m _ meth c cX1_has 2 wsX1_has RX1 D (zT T) A := X
  have f1 : ∀ w ∈ u_ws RX1 TX1 5, w ∈ wsX1_has := by decide +kernel
  have l25 : Cond.fieldLink RX1 25 "Recertify$Evidence" "count" "I" ∈ wsX1_has := by decide +kernel
  refine zg_iload_n X dX1_has_0 rfl ?_
  refine zg_if_lt X dX1_has_1 (tgt := 16) (by decide) (fun c_1 => ?_) (fun c_1 => ?_)
  · skip
    refine zg_iconst X (v := 0) dX1_has_16 (by decide) ?_
    exact zg_nret X hr (rfl) dX1_has_17 (Nat.le_of_ble_eq_true rfl) (Nat.le_of_ble_eq_true rfl) (⟨(bI_f (pIn_f1 c_1)).symm, rfl⟩)
  · skip
    refine zg_iload_n X dX1_has_4 rfl ?_
    refine zg_aload_n X dX1_has_5 rfl ?_
    refine rg_Evidence_count X f1 l25 dX1_has_6 ?_
    refine zg_icmp_ge X dX1_has_9 (tgt := 16) (by decide) (fun c_9 => ?_) (fun c_9 => ?_)
    · skip
      refine zg_iconst X (v := 0) dX1_has_16 (by decide) ?_
      exact zg_nret X hr (rfl) dX1_has_17 (Nat.le_of_ble_eq_true rfl) (Nat.le_of_ble_eq_true rfl) (⟨(bI_f (pIn_f2 c_9)).symm, rfl⟩)
    · skip
      refine zg_iconst X (v := 1) dX1_has_12 (by decide) ?_
      refine zg_goto X dX1_has_13 (tgt := 17) (by decide) ?_
      exact zg_nret X hr (rfl) dX1_has_17 (Nat.le_of_ble_eq_true rfl) (Nat.le_of_ble_eq_true rfl) (⟨(bI_t (pIn_t c_1 c_9)).symm, rfl⟩)

set_option maxHeartbeats 4000000 in
set_option maxRecDepth 100000 in
theorem k_X4_add (l : Launch) (D : va_G) (ad : Nat → Nat) (T : Nat → ClassId) (σ : ZS) (d mg : Int32) (hlt : σ.1 0 < 10) : zM l yX4_add wsX4_add ({ frames := 0, cells := 0, slots := 0, locals := 0 }) D (zT T) [.ref (ad 1), .int d, .int mg] (wC ad T σ) 0 0 (qI D (zT T) (fun r w => r = nI (σ.1 0) ∧ w = wC ad T (uC (uA (uA (uA σ 0 (upd (σ.2.2 0) (σ.1 0) d)) 1 (upd (σ.2.2 1) (σ.1 0) mg)) 2 (upd (σ.2.2 2) (σ.1 0) (-1))) 0 (σ.1 0 + 1)))) := by
  refine zg_of (cc := cX4_add) (maxL := 3) (ret := (some .int)) (by decide) rfl (Nat.le_of_ble_eq_true rfl) (fun p e s m below meth c A hin hr X => ?_)
  have X : zC p s m _ meth c cX4_add 3 wsX4_add RX4 D (zT T) A := X
  have f4 : ∀ w ∈ u_ws RX4 TX4 5, w ∈ wsX4_add := by decide +kernel
  have l15 : Cond.fieldLink RX4 15 "Recertify$People" "managers" "[I" ∈ wsX4_add := by decide +kernel
  have l18 : Cond.fieldLink RX4 18 "Recertify$People" "substitutes" "[I" ∈ wsX4_add := by decide +kernel
  have l25 : Cond.fieldLink RX4 25 "Recertify$People" "count" "I" ∈ wsX4_add := by decide +kernel
  have l9 : Cond.fieldLink RX4 9 "Recertify$People" "departments" "[I" ∈ wsX4_add := by decide +kernel
  refine zg_aload_n X dX4_add_0 rfl ?_
  refine rg_People_departments X f4 l9 dX4_add_1 ?_
  refine zg_aload_n X dX4_add_4 rfl ?_
  refine rg_People_count X f4 l25 dX4_add_5 ?_
  refine zg_iload_n X dX4_add_8 rfl ?_
  refine rsC_departments X hlt dX4_add_9 ?_
  refine zg_aload_n X dX4_add_10 rfl ?_
  refine rg_People_managers X f4 l15 dX4_add_11 ?_
  refine zg_aload_n X dX4_add_14 rfl ?_
  refine rg_People_count X f4 l25 dX4_add_15 ?_
  refine zg_iload_n X dX4_add_18 rfl ?_
  refine rsC_managers X hlt dX4_add_19 ?_
  refine zg_aload_n X dX4_add_20 rfl ?_
  refine rg_People_substitutes X f4 l18 dX4_add_21 ?_
  refine zg_aload_n X dX4_add_24 rfl ?_
  refine rg_People_count X f4 l25 dX4_add_25 ?_
  refine zg_iconst X (v := (-1)) dX4_add_28 (by decide) ?_
  refine rsC_substitutes X hlt dX4_add_29 ?_
  refine zg_aload_n X dX4_add_30 rfl ?_
  refine zg_dup X dX4_add_31 rfl ?_
  refine rg_People_count X f4 l25 dX4_add_32 ?_
  refine zg_dup_x1 X dX4_add_35 rfl rfl ?_
  refine zg_iconst X (v := 1) dX4_add_36 (by decide) ?_
  refine zg_iadd X dX4_add_37 ?_
  refine zg_top (nI_1 _) ?_
  refine rp_People_count X f4 l25 dX4_add_38 ?_
  exact zg_iret X hr dX4_add_41 (Nat.le_of_ble_eq_true rfl) (Nat.le_of_ble_eq_true rfl) (⟨rfl, rfl⟩)

set_option maxHeartbeats 4000000 in
set_option maxRecDepth 100000 in
theorem k_X4_firstPresent (l : Launch) (D : va_G) (ad : Nat → Nat) (T : Nat → ClassId) (σ : ZS) (hB0 : zBd σ) (x : Int32) : zM l yX4_firstPresent wsX4_firstPresent ({ frames := 1, cells := 0, slots := 0, locals := 21 }) D (zT T) [.ref (ad 1), .int x] (wC ad T σ) 0 0 (qI D (zT T) (fun r w => r = fpI σ (σ.1 0) x ∧ w = wC ad T σ)) := by
  have hB1 := hB0
  obtain ⟨b0, b1, b2, b3, b4, b5⟩ := hB1
  refine zg_of (cc := cX4_firstPresent) (maxL := 4) (ret := (some .int)) (by decide) rfl (Nat.le_of_ble_eq_true rfl) (fun p e s m below meth c A hin hr X => ?_)
  have X : zC p s m _ meth c cX4_firstPresent 4 wsX4_firstPresent RX4 D (zT T) A := X
  have f4 : ∀ w ∈ u_ws RX4 TX4 5, w ∈ wsX4_firstPresent := by decide +kernel
  have l18 : Cond.fieldLink RX4 18 "Recertify$People" "substitutes" "[I" ∈ wsX4_firstPresent := by decide +kernel
  have l21 : Cond.fieldLink RX4 21 "Recertify$People" "absent" "[Z" ∈ wsX4_firstPresent := by decide +kernel
  have l25 : Cond.fieldLink RX4 25 "Recertify$People" "count" "I" ∈ wsX4_firstPresent := by decide +kernel
  refine zg_iload_n X dX4_firstPresent_0 rfl ?_
  refine zg_istore_n X dX4_firstPresent_1 (by decide) ?_
  refine zg_iconst X (v := 0) dX4_firstPresent_2 (by decide) ?_
  refine zg_istore_n X dX4_firstPresent_3 (by decide) ?_
  have LP4 : ∀ (fu : Nat) (i : Nat) (cur : Int32), σ.1 0 + 1 ≤ i + fu → i ≤ σ.1 0 → fpI σ (σ.1 0 - i) cur = fpI σ (σ.1 0) x → zG p l e (headSpec wsX4_firstPresent ({ frames := 1, cells := 0, slots := 0, locals := 21 })).room s m [.ref (ad 1), .int x].toArray below meth c D 4 A 0 0 (MQ below (qI D (zT T) (fun r w => r = fpI σ (σ.1 0) x ∧ w = wC ad T σ) A) [.ref (ad 1), .int x].toArray s 0 0 A) (wC ad T σ) 4 [(0, .ref (ad 1)), (2, .int cur), (3, .int (nI i))] [] := by
    intro fu
    induction fu with
    | zero => intro i cur hfu hii _; exact absurd hfu (by omega)
    | succ fu ih4 =>
      intro i cur hfu hii hq
      refine zg_iload_n X dX4_firstPresent_4 rfl ?_
      refine zg_aload_n X dX4_firstPresent_5 rfl ?_
      refine rg_People_count X f4 l25 dX4_firstPresent_6 ?_
      refine zg_icmpn_ge X dX4_firstPresent_9 (tgt := 46) (by decide) (b := σ.1 0) (by omega) (by omega) (fun c_9 => ?_) (fun c_9 => ?_)
      · skip
        refine zg_iconst X (v := (-1)) dX4_firstPresent_46 (by decide) ?_
        exact zg_iret X hr dX4_firstPresent_47 (Nat.le_of_ble_eq_true rfl) (Nat.le_of_ble_eq_true rfl) (⟨by rw [← hq, show σ.1 0 - i = 0 by omega, fpI], rfl⟩)
      · skip
        obtain ⟨k, hk⟩ : ∃ k, σ.1 0 - i = k + 1 := ⟨σ.1 0 - i - 1, by omega⟩
        rw [hk] at hq
        refine zg_aload_n X dX4_firstPresent_12 rfl ?_
        refine zg_iload_n X dX4_firstPresent_13 rfl ?_
        refine zg_callVi X (k_X4_has l D ad T _ hB0 _) zFr.rf gX4_firstPresent_X4_has rfl rfl rfl qv_X4_has rfl ⟨Nat.le_of_ble_eq_true rfl, Nat.le_of_ble_eq_true rfl⟩ (q0 := 1) (ci := 6) rfl rfl rfl (Nat.le_of_ble_eq_true rfl) ⟨Nat.le_of_ble_eq_true rfl, Nat.le_of_ble_eq_true rfl⟩ dX4_firstPresent_14 (fun r w1 hz9 => ?_)
        obtain ⟨rfl, rfl⟩ := hz9
        refine zg_if_neb X dX4_firstPresent_17 (tgt := 22) (by decide) (fun c_17 => ?_) (fun c_17 => ?_)
        · skip
          obtain ⟨j, hj, rfl⟩ := pIn_idx (by omega) c_17
          refine zg_aload_n X dX4_firstPresent_22 rfl ?_
          refine rg_People_absent X f4 l21 dX4_firstPresent_23 ?_
          refine zg_iload_n X dX4_firstPresent_26 rfl ?_
          refine rlC_absent X (by omega) dX4_firstPresent_27 ?_
          refine zg_if_ne X dX4_firstPresent_28 (tgt := 33) (by decide) (fun c_28 => ?_) (fun c_28 => ?_)
          · skip
            refine zg_aload_n X dX4_firstPresent_33 rfl ?_
            refine rg_People_substitutes X f4 l18 dX4_firstPresent_34 ?_
            refine zg_iload_n X dX4_firstPresent_37 rfl ?_
            refine rlC_substitutes X (by omega) dX4_firstPresent_38 ?_
            refine zg_istore_n X dX4_firstPresent_39 (by decide) ?_
            refine zg_iinc1 X dX4_firstPresent_40 (by decide) rfl ?_
            refine zg_goto X dX4_firstPresent_43 (tgt := 4) (by decide) ?_
            exact zg_lv (by exact ⟨rfl, rfl, rfl, trivial⟩) (ih4 (i + 1) _ (by omega) (by omega) (by rw [← hq, fpI, if_pos c_17, ix_nI (by omega), if_neg c_28, show σ.1 0 - (i + 1) = k by omega]))
          · skip
            refine zg_iload_n X dX4_firstPresent_31 rfl ?_
            exact zg_iret X hr dX4_firstPresent_32 (Nat.le_of_ble_eq_true rfl) (Nat.le_of_ble_eq_true rfl) (⟨by rw [← hq, fpI, if_pos c_17, ix_nI (by omega), if_pos c_28], rfl⟩)
        · skip
          refine zg_iconst X (v := (-1)) dX4_firstPresent_20 (by decide) ?_
          exact zg_iret X hr dX4_firstPresent_21 (Nat.le_of_ble_eq_true rfl) (Nat.le_of_ble_eq_true rfl) (⟨by rw [← hq, fpI, if_neg c_17], rfl⟩)
  exact zg_lv (by exact ⟨rfl, rfl, rfl, trivial⟩) (LP4 (σ.1 0 + 1) 0 _ (by omega) (by omega) rfl)

set_option maxHeartbeats 4000000 in
set_option maxRecDepth 100000 in
theorem k_X4_findPeers (l : Launch) (D : va_G) (ad : Nat → Nat) (T : Nat → ClassId) (σ : ZS) (hB0 : zBd σ) (q : Nat) (hp : q < 10) : zM l yX4_findPeers wsX4_findPeers ({ frames := 1, cells := 0, slots := 0, locals := 20 }) D (zT T) [.ref (ad 1), .int (nI q)] (wC ad T σ) 0 0 (qI D (zT T) (fun r w => r = peersI σ q ∧ w = wC ad T σ)) := by
  have hB1 := hB0
  obtain ⟨b0, b1, b2, b3, b4, b5⟩ := hB1
  refine zg_of (cc := cX4_findPeers) (maxL := 4) (ret := (some .int)) (by decide) rfl (Nat.le_of_ble_eq_true rfl) (fun p e s m below meth c A hin hr X => ?_)
  have X : zC p s m _ meth c cX4_findPeers 4 wsX4_findPeers RX4 D (zT T) A := X
  have f4 : ∀ w ∈ u_ws RX4 TX4 5, w ∈ wsX4_findPeers := by decide +kernel
  have l33i : Cond.initialized RX6 ∈ wsX4_findPeers := by decide +kernel
  have l33s : Cond.static yX6_bit ∈ wsX4_findPeers := by decide +kernel
  have l25 : Cond.fieldLink RX4 25 "Recertify$People" "count" "I" ∈ wsX4_findPeers := by decide +kernel
  have l9 : Cond.fieldLink RX4 9 "Recertify$People" "departments" "[I" ∈ wsX4_findPeers := by decide +kernel
  refine zg_iconst X (v := 0) dX4_findPeers_0 (by decide) ?_
  refine zg_istore_n X dX4_findPeers_1 (by decide) ?_
  refine zg_iconst X (v := 0) dX4_findPeers_2 (by decide) ?_
  refine zg_istore_n X dX4_findPeers_3 (by decide) ?_
  have LP4 : ∀ (fu : Nat) (i : Nat) (acc : Int32), σ.1 0 + 1 ≤ i + fu → i ≤ σ.1 0 → acc = fN (peersF σ q) 0 i → zG p l e (headSpec wsX4_findPeers ({ frames := 1, cells := 0, slots := 0, locals := 20 })).room s m [.ref (ad 1), .int (nI q)].toArray below meth c D 4 A 0 0 (MQ below (qI D (zT T) (fun r w => r = peersI σ q ∧ w = wC ad T σ) A) [.ref (ad 1), .int (nI q)].toArray s 0 0 A) (wC ad T σ) 4 [(0, .ref (ad 1)), (1, .int (nI q)), (2, .int acc), (3, .int (nI i))] [] := by
    intro fu
    induction fu with
    | zero => intro i acc hfu hii _; exact absurd hfu (by omega)
    | succ fu ih4 =>
      intro i acc hfu hii hacc
      refine zg_iload_n X dX4_findPeers_4 rfl ?_
      refine zg_aload_n X dX4_findPeers_5 rfl ?_
      refine rg_People_count X f4 l25 dX4_findPeers_6 ?_
      refine zg_icmpn_ge X dX4_findPeers_9 (tgt := 45) (by decide) (b := σ.1 0) (by omega) (by omega) (fun c_9 => ?_) (fun c_9 => ?_)
      · skip
        refine zg_iload_n X dX4_findPeers_45 rfl ?_
        exact zg_iret X hr dX4_findPeers_46 (Nat.le_of_ble_eq_true rfl) (Nat.le_of_ble_eq_true rfl) (⟨by rw [hacc, peersI, show i = σ.1 0 by omega], rfl⟩)
      · skip
        refine zg_iload_n X dX4_findPeers_12 rfl ?_
        refine zg_iload_n X dX4_findPeers_13 rfl ?_
        refine zg_icmpn_eq X dX4_findPeers_14 (tgt := 39) (by decide) (b := q) (by omega) (by omega) (fun c_14 => ?_) (fun c_14 => ?_)
        · skip
          refine zg_iinc1 X dX4_findPeers_39 (by decide) rfl ?_
          refine zg_goto X dX4_findPeers_42 (tgt := 4) (by decide) ?_
          exact zg_lv (by exact ⟨rfl, rfl, rfl, rfl, trivial⟩) (ih4 (i + 1) _ (by omega) (by omega) (by rw [fN, ← hacc]; simp [peersF, c_9, c_14]))
        · skip
          refine zg_aload_n X dX4_findPeers_17 rfl ?_
          refine rg_People_departments X f4 l9 dX4_findPeers_18 ?_
          refine zg_iload_n X dX4_findPeers_21 rfl ?_
          refine rlC_departments X (by omega) dX4_findPeers_22 ?_
          refine zg_aload_n X dX4_findPeers_23 rfl ?_
          refine rg_People_departments X f4 l9 dX4_findPeers_24 ?_
          refine zg_iload_n X dX4_findPeers_27 rfl ?_
          refine rlC_departments X (by omega) dX4_findPeers_28 ?_
          refine zg_icmp_ne X dX4_findPeers_29 (tgt := 39) (by decide) (fun c_29 => ?_) (fun c_29 => ?_)
          · skip
            refine zg_iinc1 X dX4_findPeers_39 (by decide) rfl ?_
            refine zg_goto X dX4_findPeers_42 (tgt := 4) (by decide) ?_
            exact zg_lv (by exact ⟨rfl, rfl, rfl, rfl, trivial⟩) (ih4 (i + 1) _ (by omega) (by omega) (by rw [fN, ← hacc]; simp [peersF, c_9, c_14, c_29]))
          · skip
            refine zg_iload_n X dX4_findPeers_32 rfl ?_
            refine zg_iload_n X dX4_findPeers_33 rfl ?_
            refine zg_callSNi X (k_X6_bit l D ad T _ i) zFr.rf gX4_findPeers_X6_bit_n33 (host := RX6) (by decide +kernel) l33s l33i rfl rfl rfl qd_X6_bit rfl ⟨Nat.le_of_ble_eq_true rfl, Nat.le_of_ble_eq_true rfl⟩ rfl (Nat.le_of_ble_eq_true rfl) ⟨Nat.le_of_ble_eq_true rfl, Nat.le_of_ble_eq_true rfl⟩ dX4_findPeers_34 (fun r w1 hz9 => ?_)
            obtain ⟨rfl, rfl⟩ := hz9
            refine zg_ior X dX4_findPeers_37 ?_
            refine zg_istore_n X dX4_findPeers_38 (by decide) ?_
            refine zg_iinc1 X dX4_findPeers_39 (by decide) rfl ?_
            refine zg_goto X dX4_findPeers_42 (tgt := 4) (by decide) ?_
            exact zg_lv (by exact ⟨rfl, rfl, rfl, rfl, trivial⟩) (ih4 (i + 1) _ (by omega) (by omega) (by rw [fN, ← hacc]; simp [peersF, c_9, c_14, c_29]))
  exact zg_lv (by exact ⟨rfl, rfl, rfl, rfl, trivial⟩) (LP4 (σ.1 0 + 1) 0 _ (by omega) (by omega) rfl)
