/-! The constructors: of the class, of what is nested in it, of the reference. -/
theorem qd_X4_init : yX4_init.cls ≠ "java/lang/invoke/MethodHandle" ∧ yX4_init.cls ≠ "java/lang/invoke/VarHandle" ∧ (parseMethodDescriptor yX4_init.desc).map (fun d => d.parameters.length) = some 0 := by decide +kernel
theorem qv_X4_init : yX4_init.cls = RX4 ∧ yX4_init.cls ≠ "java/lang/invoke/MethodHandle" ∧ yX4_init.cls ≠ "java/lang/invoke/VarHandle" ∧ (parseMethodDescriptor yX4_init.desc).map (fun d => d.parameters.length) = some 0 := ⟨rfl, qd_X4_init⟩
set_option maxHeartbeats 4000000 in
set_option maxRecDepth 100000 in
theorem k_X4_init (l : Launch) (D : va_G) (T : Nat → ClassId) (h : Nat) : zM l yX4_init wsX4_init ({ frames := 1, cells := 4, slots := 40, locals := 30 }) D (zT T) [.ref h] [(h, .inr (6, [.null, .null, .null, .null, .int 0]))] 4 40 (qV D (zT T) (fun w => ∃ q0 q1 q2 q3 : Nat, w = [(h, .inr (6, [.ref q0, .ref q1, .ref q2, .ref q3, .int 0])), (q0, .inl (T 0, 10, .inl (fun _ => 0))), (q1, .inl (T 0, 10, .inl (fun _ => 0))), (q2, .inl (T 0, 10, .inl (fun _ => 0))), (q3, .inl (T 2, 10, .inl (fun _ => 0)))])) := by
  refine zg_of (cc := cX4_init) (maxL := 1) (ret := none) (by decide) rfl (Nat.le_of_ble_eq_true rfl) (fun p e s m below meth c A hin hr X => ?_)
  have X : zC p s m _ meth c cX4_init 1 wsX4_init RX4 D (zT T) A := X
  have f4 : ∀ w ∈ u_ws RX4 TX4 5, w ∈ wsX4_init := by decide +kernel
  have l3 : Cond.methodLink RX4 3 objectInit ∈ wsX4_init := by decide +kernel
  have oi : Cond.instanceMethod objectInit ∈ wsX4_init := by decide +kernel
  have oc : Cond.code objectInit ⟨#[0xb1]⟩ 1 none ∈ wsX4_init := by decide +kernel
  have ar0 : Cond.arrayClass .int ∈ wsX4_init := by decide +kernel
  have l9 : Cond.fieldLink RX4 9 "Recertify$People" "departments" "[I" ∈ wsX4_init := by decide +kernel
  have l15 : Cond.fieldLink RX4 15 "Recertify$People" "managers" "[I" ∈ wsX4_init := by decide +kernel
  have l18 : Cond.fieldLink RX4 18 "Recertify$People" "substitutes" "[I" ∈ wsX4_init := by decide +kernel
  have ar2 : Cond.arrayClass .boolean ∈ wsX4_init := by decide +kernel
  have l21 : Cond.fieldLink RX4 21 "Recertify$People" "absent" "[Z" ∈ wsX4_init := by decide +kernel
  have l25 : Cond.fieldLink RX4 25 "Recertify$People" "count" "I" ∈ wsX4_init := by decide +kernel
  refine zg_aload_n X dX4_init_0 rfl ?_
  refine zg_obj X l3 oi oc (Nat.le_of_ble_eq_true rfl) (Nat.le_of_ble_eq_true rfl) dX4_init_1 ?_
  refine zg_aload_n X dX4_init_4 rfl ?_
  refine zg_bipush X (v := 10) dX4_init_5 (by decide) ?_
  refine zg_newa X (atype := .int) (ty := .int) rfl ar0 (t0 := 0) rfl (fun _ _ h => h) (N' := 10) (a0 := (10, .inl (fun _ => 0))) (fun _ => rfl) (by decide) (by decide) (Nat.le_of_ble_eq_true rfl) (Nat.le_of_ble_eq_true rfl) (Nat.le_of_ble_eq_true rfl) dX4_init_7 (fun a0 => ?_)
  refine zg_w (w' := [(h, .inr (6, [.null, .null, .null, .null, .int 0])), (a0, .inl (T 0, 10, .inl (fun _ => 0)))]) rfl ?_
  refine zg_putF X f4 tyX4_ok nmX4 (fs := [.null, .null, .null, .null, .int 0]) (q0 := 0) (ci := 6) rfl rfl 0 (by decide) l9 (fun _ h => h) rfl hin rfl (ty := tyX4 0) (tyX4_ok 0 (by decide)) rfl rfl (Nat.le_of_ble_eq_true rfl) dX4_init_9 (w' := [(h, .inr (6, [.ref a0, .null, .null, .null, .int 0])), (a0, .inl (T 0, 10, .inl (fun _ => 0)))]) rfl ?_
  refine zg_aload_n X dX4_init_12 rfl ?_
  refine zg_bipush X (v := 10) dX4_init_13 (by decide) ?_
  refine zg_newa X (atype := .int) (ty := .int) rfl ar0 (t0 := 0) rfl (fun _ _ h => h) (N' := 10) (a0 := (10, .inl (fun _ => 0))) (fun _ => rfl) (by decide) (by decide) (Nat.le_of_ble_eq_true rfl) (Nat.le_of_ble_eq_true rfl) (Nat.le_of_ble_eq_true rfl) dX4_init_15 (fun a1 => ?_)
  refine zg_w (w' := [(h, .inr (6, [.ref a0, .null, .null, .null, .int 0])), (a0, .inl (T 0, 10, .inl (fun _ => 0))), (a1, .inl (T 0, 10, .inl (fun _ => 0)))]) rfl ?_
  refine zg_putF X f4 tyX4_ok nmX4 (fs := [.ref a0, .null, .null, .null, .int 0]) (q0 := 0) (ci := 6) rfl rfl 1 (by decide) l15 (fun _ h => h) rfl hin rfl (ty := tyX4 1) (tyX4_ok 1 (by decide)) rfl rfl (Nat.le_of_ble_eq_true rfl) dX4_init_17 (w' := [(h, .inr (6, [.ref a0, .ref a1, .null, .null, .int 0])), (a0, .inl (T 0, 10, .inl (fun _ => 0))), (a1, .inl (T 0, 10, .inl (fun _ => 0)))]) rfl ?_
  refine zg_aload_n X dX4_init_20 rfl ?_
  refine zg_bipush X (v := 10) dX4_init_21 (by decide) ?_
  refine zg_newa X (atype := .int) (ty := .int) rfl ar0 (t0 := 0) rfl (fun _ _ h => h) (N' := 10) (a0 := (10, .inl (fun _ => 0))) (fun _ => rfl) (by decide) (by decide) (Nat.le_of_ble_eq_true rfl) (Nat.le_of_ble_eq_true rfl) (Nat.le_of_ble_eq_true rfl) dX4_init_23 (fun a2 => ?_)
  refine zg_w (w' := [(h, .inr (6, [.ref a0, .ref a1, .null, .null, .int 0])), (a0, .inl (T 0, 10, .inl (fun _ => 0))), (a1, .inl (T 0, 10, .inl (fun _ => 0))), (a2, .inl (T 0, 10, .inl (fun _ => 0)))]) rfl ?_
  refine zg_putF X f4 tyX4_ok nmX4 (fs := [.ref a0, .ref a1, .null, .null, .int 0]) (q0 := 0) (ci := 6) rfl rfl 2 (by decide) l18 (fun _ h => h) rfl hin rfl (ty := tyX4 2) (tyX4_ok 2 (by decide)) rfl rfl (Nat.le_of_ble_eq_true rfl) dX4_init_25 (w' := [(h, .inr (6, [.ref a0, .ref a1, .ref a2, .null, .int 0])), (a0, .inl (T 0, 10, .inl (fun _ => 0))), (a1, .inl (T 0, 10, .inl (fun _ => 0))), (a2, .inl (T 0, 10, .inl (fun _ => 0)))]) rfl ?_
  refine zg_aload_n X dX4_init_28 rfl ?_
  refine zg_bipush X (v := 10) dX4_init_29 (by decide) ?_
  refine zg_newa X (atype := .boolean) (ty := .boolean) rfl ar2 (t0 := 2) rfl (fun _ _ h => h) (N' := 10) (a0 := (10, .inl (fun _ => 0))) (fun _ => rfl) (by decide) (by decide) (Nat.le_of_ble_eq_true rfl) (Nat.le_of_ble_eq_true rfl) (Nat.le_of_ble_eq_true rfl) dX4_init_31 (fun a3 => ?_)
  refine zg_w (w' := [(h, .inr (6, [.ref a0, .ref a1, .ref a2, .null, .int 0])), (a0, .inl (T 0, 10, .inl (fun _ => 0))), (a1, .inl (T 0, 10, .inl (fun _ => 0))), (a2, .inl (T 0, 10, .inl (fun _ => 0))), (a3, .inl (T 2, 10, .inl (fun _ => 0)))]) rfl ?_
  refine zg_putF X f4 tyX4_ok nmX4 (fs := [.ref a0, .ref a1, .ref a2, .null, .int 0]) (q0 := 0) (ci := 6) rfl rfl 3 (by decide) l21 (fun _ h => h) rfl hin rfl (ty := tyX4 3) (tyX4_ok 3 (by decide)) rfl rfl (Nat.le_of_ble_eq_true rfl) dX4_init_33 (w' := [(h, .inr (6, [.ref a0, .ref a1, .ref a2, .ref a3, .int 0])), (a0, .inl (T 0, 10, .inl (fun _ => 0))), (a1, .inl (T 0, 10, .inl (fun _ => 0))), (a2, .inl (T 0, 10, .inl (fun _ => 0))), (a3, .inl (T 2, 10, .inl (fun _ => 0)))]) rfl ?_
  refine zg_aload_n X dX4_init_36 rfl ?_
  refine zg_iconst X (v := 0) dX4_init_37 (by decide) ?_
  refine zg_put X f4 tyX4_ok nmX4 (fs := [.ref a0, .ref a1, .ref a2, .ref a3, .int 0]) (q0 := 0) (ci := 6) rfl rfl 4 (by decide) l25 (fun _ h => h) rfl (ty := tyX4 4) (tyX4_ok 4 (by decide)) rfl rfl (Nat.le_of_ble_eq_true rfl) dX4_init_38 (w' := [(h, .inr (6, [.ref a0, .ref a1, .ref a2, .ref a3, .int 0])), (a0, .inl (T 0, 10, .inl (fun _ => 0))), (a1, .inl (T 0, 10, .inl (fun _ => 0))), (a2, .inl (T 0, 10, .inl (fun _ => 0))), (a3, .inl (T 2, 10, .inl (fun _ => 0)))]) rfl ?_
  exact zg_vret X hr dX4_init_41 (Nat.le_of_ble_eq_true rfl) (Nat.le_of_ble_eq_true rfl) ⟨a0, a1, a2, a3, rfl⟩

theorem qd_X3_init : yX3_init.cls ≠ "java/lang/invoke/MethodHandle" ∧ yX3_init.cls ≠ "java/lang/invoke/VarHandle" ∧ (parseMethodDescriptor yX3_init.desc).map (fun d => d.parameters.length) = some 0 := by decide +kernel
theorem qv_X3_init : yX3_init.cls = RX3 ∧ yX3_init.cls ≠ "java/lang/invoke/MethodHandle" ∧ yX3_init.cls ≠ "java/lang/invoke/VarHandle" ∧ (parseMethodDescriptor yX3_init.desc).map (fun d => d.parameters.length) = some 0 := ⟨rfl, qd_X3_init⟩
set_option maxHeartbeats 4000000 in
set_option maxRecDepth 100000 in
theorem k_X3_init (l : Launch) (D : va_G) (T : Nat → ClassId) (h : Nat) : zM l yX3_init wsX3_init ({ frames := 1, cells := 4, slots := 32, locals := 30 }) D (zT T) [.ref h] [(h, .inr (5, [.null, .null, .null, .null, .int 0]))] 4 32 (qV D (zT T) (fun w => ∃ q0 q1 q2 q3 : Nat, w = [(h, .inr (5, [.ref q0, .ref q1, .ref q2, .ref q3, .int 0])), (q0, .inl (T 0, 8, .inl (fun _ => 0))), (q1, .inl (T 0, 8, .inl (fun _ => 0))), (q2, .inl (T 0, 8, .inl (fun _ => 0))), (q3, .inl (T 0, 8, .inl (fun _ => 0)))])) := by
  refine zg_of (cc := cX3_init) (maxL := 1) (ret := none) (by decide) rfl (Nat.le_of_ble_eq_true rfl) (fun p e s m below meth c A hin hr X => ?_)
  have X : zC p s m _ meth c cX3_init 1 wsX3_init RX3 D (zT T) A := X
  have f3 : ∀ w ∈ u_ws RX3 TX3 5, w ∈ wsX3_init := by decide +kernel
  have l3 : Cond.methodLink RX3 3 objectInit ∈ wsX3_init := by decide +kernel
  have oi : Cond.instanceMethod objectInit ∈ wsX3_init := by decide +kernel
  have oc : Cond.code objectInit ⟨#[0xb1]⟩ 1 none ∈ wsX3_init := by decide +kernel
  have ar0 : Cond.arrayClass .int ∈ wsX3_init := by decide +kernel
  have l9 : Cond.fieldLink RX3 9 "Recertify$Groups" "owners" "[I" ∈ wsX3_init := by decide +kernel
  have l15 : Cond.fieldLink RX3 15 "Recertify$Groups" "direct" "[I" ∈ wsX3_init := by decide +kernel
  have l18 : Cond.fieldLink RX3 18 "Recertify$Groups" "nested" "[I" ∈ wsX3_init := by decide +kernel
  have l21 : Cond.fieldLink RX3 21 "Recertify$Groups" "all" "[I" ∈ wsX3_init := by decide +kernel
  have l24 : Cond.fieldLink RX3 24 "Recertify$Groups" "count" "I" ∈ wsX3_init := by decide +kernel
  refine zg_aload_n X dX3_init_0 rfl ?_
  refine zg_obj X l3 oi oc (Nat.le_of_ble_eq_true rfl) (Nat.le_of_ble_eq_true rfl) dX3_init_1 ?_
  refine zg_aload_n X dX3_init_4 rfl ?_
  refine zg_bipush X (v := 8) dX3_init_5 (by decide) ?_
  refine zg_newa X (atype := .int) (ty := .int) rfl ar0 (t0 := 0) rfl (fun _ _ h => h) (N' := 8) (a0 := (8, .inl (fun _ => 0))) (fun _ => rfl) (by decide) (by decide) (Nat.le_of_ble_eq_true rfl) (Nat.le_of_ble_eq_true rfl) (Nat.le_of_ble_eq_true rfl) dX3_init_7 (fun a0 => ?_)
  refine zg_w (w' := [(h, .inr (5, [.null, .null, .null, .null, .int 0])), (a0, .inl (T 0, 8, .inl (fun _ => 0)))]) rfl ?_
  refine zg_putF X f3 tyX3_ok nmX3 (fs := [.null, .null, .null, .null, .int 0]) (q0 := 0) (ci := 5) rfl rfl 0 (by decide) l9 (fun _ h => h) rfl hin rfl (ty := tyX3 0) (tyX3_ok 0 (by decide)) rfl rfl (Nat.le_of_ble_eq_true rfl) dX3_init_9 (w' := [(h, .inr (5, [.ref a0, .null, .null, .null, .int 0])), (a0, .inl (T 0, 8, .inl (fun _ => 0)))]) rfl ?_
  refine zg_aload_n X dX3_init_12 rfl ?_
  refine zg_bipush X (v := 8) dX3_init_13 (by decide) ?_
  refine zg_newa X (atype := .int) (ty := .int) rfl ar0 (t0 := 0) rfl (fun _ _ h => h) (N' := 8) (a0 := (8, .inl (fun _ => 0))) (fun _ => rfl) (by decide) (by decide) (Nat.le_of_ble_eq_true rfl) (Nat.le_of_ble_eq_true rfl) (Nat.le_of_ble_eq_true rfl) dX3_init_15 (fun a1 => ?_)
  refine zg_w (w' := [(h, .inr (5, [.ref a0, .null, .null, .null, .int 0])), (a0, .inl (T 0, 8, .inl (fun _ => 0))), (a1, .inl (T 0, 8, .inl (fun _ => 0)))]) rfl ?_
  refine zg_putF X f3 tyX3_ok nmX3 (fs := [.ref a0, .null, .null, .null, .int 0]) (q0 := 0) (ci := 5) rfl rfl 1 (by decide) l15 (fun _ h => h) rfl hin rfl (ty := tyX3 1) (tyX3_ok 1 (by decide)) rfl rfl (Nat.le_of_ble_eq_true rfl) dX3_init_17 (w' := [(h, .inr (5, [.ref a0, .ref a1, .null, .null, .int 0])), (a0, .inl (T 0, 8, .inl (fun _ => 0))), (a1, .inl (T 0, 8, .inl (fun _ => 0)))]) rfl ?_
  refine zg_aload_n X dX3_init_20 rfl ?_
  refine zg_bipush X (v := 8) dX3_init_21 (by decide) ?_
  refine zg_newa X (atype := .int) (ty := .int) rfl ar0 (t0 := 0) rfl (fun _ _ h => h) (N' := 8) (a0 := (8, .inl (fun _ => 0))) (fun _ => rfl) (by decide) (by decide) (Nat.le_of_ble_eq_true rfl) (Nat.le_of_ble_eq_true rfl) (Nat.le_of_ble_eq_true rfl) dX3_init_23 (fun a2 => ?_)
  refine zg_w (w' := [(h, .inr (5, [.ref a0, .ref a1, .null, .null, .int 0])), (a0, .inl (T 0, 8, .inl (fun _ => 0))), (a1, .inl (T 0, 8, .inl (fun _ => 0))), (a2, .inl (T 0, 8, .inl (fun _ => 0)))]) rfl ?_
  refine zg_putF X f3 tyX3_ok nmX3 (fs := [.ref a0, .ref a1, .null, .null, .int 0]) (q0 := 0) (ci := 5) rfl rfl 2 (by decide) l18 (fun _ h => h) rfl hin rfl (ty := tyX3 2) (tyX3_ok 2 (by decide)) rfl rfl (Nat.le_of_ble_eq_true rfl) dX3_init_25 (w' := [(h, .inr (5, [.ref a0, .ref a1, .ref a2, .null, .int 0])), (a0, .inl (T 0, 8, .inl (fun _ => 0))), (a1, .inl (T 0, 8, .inl (fun _ => 0))), (a2, .inl (T 0, 8, .inl (fun _ => 0)))]) rfl ?_
  refine zg_aload_n X dX3_init_28 rfl ?_
  refine zg_bipush X (v := 8) dX3_init_29 (by decide) ?_
  refine zg_newa X (atype := .int) (ty := .int) rfl ar0 (t0 := 0) rfl (fun _ _ h => h) (N' := 8) (a0 := (8, .inl (fun _ => 0))) (fun _ => rfl) (by decide) (by decide) (Nat.le_of_ble_eq_true rfl) (Nat.le_of_ble_eq_true rfl) (Nat.le_of_ble_eq_true rfl) dX3_init_31 (fun a3 => ?_)
  refine zg_w (w' := [(h, .inr (5, [.ref a0, .ref a1, .ref a2, .null, .int 0])), (a0, .inl (T 0, 8, .inl (fun _ => 0))), (a1, .inl (T 0, 8, .inl (fun _ => 0))), (a2, .inl (T 0, 8, .inl (fun _ => 0))), (a3, .inl (T 0, 8, .inl (fun _ => 0)))]) rfl ?_
  refine zg_putF X f3 tyX3_ok nmX3 (fs := [.ref a0, .ref a1, .ref a2, .null, .int 0]) (q0 := 0) (ci := 5) rfl rfl 3 (by decide) l21 (fun _ h => h) rfl hin rfl (ty := tyX3 3) (tyX3_ok 3 (by decide)) rfl rfl (Nat.le_of_ble_eq_true rfl) dX3_init_33 (w' := [(h, .inr (5, [.ref a0, .ref a1, .ref a2, .ref a3, .int 0])), (a0, .inl (T 0, 8, .inl (fun _ => 0))), (a1, .inl (T 0, 8, .inl (fun _ => 0))), (a2, .inl (T 0, 8, .inl (fun _ => 0))), (a3, .inl (T 0, 8, .inl (fun _ => 0)))]) rfl ?_
  refine zg_aload_n X dX3_init_36 rfl ?_
  refine zg_iconst X (v := 0) dX3_init_37 (by decide) ?_
  refine zg_put X f3 tyX3_ok nmX3 (fs := [.ref a0, .ref a1, .ref a2, .ref a3, .int 0]) (q0 := 0) (ci := 5) rfl rfl 4 (by decide) l24 (fun _ h => h) rfl (ty := tyX3 4) (tyX3_ok 4 (by decide)) rfl rfl (Nat.le_of_ble_eq_true rfl) dX3_init_38 (w' := [(h, .inr (5, [.ref a0, .ref a1, .ref a2, .ref a3, .int 0])), (a0, .inl (T 0, 8, .inl (fun _ => 0))), (a1, .inl (T 0, 8, .inl (fun _ => 0))), (a2, .inl (T 0, 8, .inl (fun _ => 0))), (a3, .inl (T 0, 8, .inl (fun _ => 0)))]) rfl ?_
  exact zg_vret X hr dX3_init_41 (Nat.le_of_ble_eq_true rfl) (Nat.le_of_ble_eq_true rfl) ⟨a0, a1, a2, a3, rfl⟩

theorem qd_X5_init : yX5_init.cls ≠ "java/lang/invoke/MethodHandle" ∧ yX5_init.cls ≠ "java/lang/invoke/VarHandle" ∧ (parseMethodDescriptor yX5_init.desc).map (fun d => d.parameters.length) = some 0 := by decide +kernel
theorem qv_X5_init : yX5_init.cls = RX5 ∧ yX5_init.cls ≠ "java/lang/invoke/MethodHandle" ∧ yX5_init.cls ≠ "java/lang/invoke/VarHandle" ∧ (parseMethodDescriptor yX5_init.desc).map (fun d => d.parameters.length) = some 0 := ⟨rfl, qd_X5_init⟩
set_option maxHeartbeats 4000000 in
set_option maxRecDepth 100000 in
theorem k_X5_init (l : Launch) (D : va_G) (T : Nat → ClassId) (h : Nat) : zM l yX5_init wsX5_init ({ frames := 1, cells := 4, slots := 40, locals := 30 }) D (zT T) [.ref h] [(h, .inr (7, [.null, .null, .null, .null, .int 0]))] 4 40 (qV D (zT T) (fun w => ∃ q0 q1 q2 q3 : Nat, w = [(h, .inr (7, [.ref q0, .ref q1, .ref q2, .ref q3, .int 0])), (q0, .inl (T 0, 10, .inl (fun _ => 0))), (q1, .inl (T 0, 10, .inl (fun _ => 0))), (q2, .inl (T 2, 10, .inl (fun _ => 0))), (q3, .inl (T 0, 10, .inl (fun _ => 0)))])) := by
  refine zg_of (cc := cX5_init) (maxL := 1) (ret := none) (by decide) rfl (Nat.le_of_ble_eq_true rfl) (fun p e s m below meth c A hin hr X => ?_)
  have X : zC p s m _ meth c cX5_init 1 wsX5_init RX5 D (zT T) A := X
  have f5 : ∀ w ∈ u_ws RX5 TX5 5, w ∈ wsX5_init := by decide +kernel
  have l3 : Cond.methodLink RX5 3 objectInit ∈ wsX5_init := by decide +kernel
  have oi : Cond.instanceMethod objectInit ∈ wsX5_init := by decide +kernel
  have oc : Cond.code objectInit ⟨#[0xb1]⟩ 1 none ∈ wsX5_init := by decide +kernel
  have ar0 : Cond.arrayClass .int ∈ wsX5_init := by decide +kernel
  have l9 : Cond.fieldLink RX5 9 "Recertify$Rights" "sensitivities" "[I" ∈ wsX5_init := by decide +kernel
  have l15 : Cond.fieldLink RX5 15 "Recertify$Rights" "owners" "[I" ∈ wsX5_init := by decide +kernel
  have ar2 : Cond.arrayClass .boolean ∈ wsX5_init := by decide +kernel
  have l18 : Cond.fieldLink RX5 18 "Recertify$Rights" "vital" "[Z" ∈ wsX5_init := by decide +kernel
  have l22 : Cond.fieldLink RX5 22 "Recertify$Rights" "denied" "[I" ∈ wsX5_init := by decide +kernel
  have l25 : Cond.fieldLink RX5 25 "Recertify$Rights" "count" "I" ∈ wsX5_init := by decide +kernel
  refine zg_aload_n X dX5_init_0 rfl ?_
  refine zg_obj X l3 oi oc (Nat.le_of_ble_eq_true rfl) (Nat.le_of_ble_eq_true rfl) dX5_init_1 ?_
  refine zg_aload_n X dX5_init_4 rfl ?_
  refine zg_bipush X (v := 10) dX5_init_5 (by decide) ?_
  refine zg_newa X (atype := .int) (ty := .int) rfl ar0 (t0 := 0) rfl (fun _ _ h => h) (N' := 10) (a0 := (10, .inl (fun _ => 0))) (fun _ => rfl) (by decide) (by decide) (Nat.le_of_ble_eq_true rfl) (Nat.le_of_ble_eq_true rfl) (Nat.le_of_ble_eq_true rfl) dX5_init_7 (fun a0 => ?_)
  refine zg_w (w' := [(h, .inr (7, [.null, .null, .null, .null, .int 0])), (a0, .inl (T 0, 10, .inl (fun _ => 0)))]) rfl ?_
  refine zg_putF X f5 tyX5_ok nmX5 (fs := [.null, .null, .null, .null, .int 0]) (q0 := 0) (ci := 7) rfl rfl 0 (by decide) l9 (fun _ h => h) rfl hin rfl (ty := tyX5 0) (tyX5_ok 0 (by decide)) rfl rfl (Nat.le_of_ble_eq_true rfl) dX5_init_9 (w' := [(h, .inr (7, [.ref a0, .null, .null, .null, .int 0])), (a0, .inl (T 0, 10, .inl (fun _ => 0)))]) rfl ?_
  refine zg_aload_n X dX5_init_12 rfl ?_
  refine zg_bipush X (v := 10) dX5_init_13 (by decide) ?_
  refine zg_newa X (atype := .int) (ty := .int) rfl ar0 (t0 := 0) rfl (fun _ _ h => h) (N' := 10) (a0 := (10, .inl (fun _ => 0))) (fun _ => rfl) (by decide) (by decide) (Nat.le_of_ble_eq_true rfl) (Nat.le_of_ble_eq_true rfl) (Nat.le_of_ble_eq_true rfl) dX5_init_15 (fun a1 => ?_)
  refine zg_w (w' := [(h, .inr (7, [.ref a0, .null, .null, .null, .int 0])), (a0, .inl (T 0, 10, .inl (fun _ => 0))), (a1, .inl (T 0, 10, .inl (fun _ => 0)))]) rfl ?_
  refine zg_putF X f5 tyX5_ok nmX5 (fs := [.ref a0, .null, .null, .null, .int 0]) (q0 := 0) (ci := 7) rfl rfl 1 (by decide) l15 (fun _ h => h) rfl hin rfl (ty := tyX5 1) (tyX5_ok 1 (by decide)) rfl rfl (Nat.le_of_ble_eq_true rfl) dX5_init_17 (w' := [(h, .inr (7, [.ref a0, .ref a1, .null, .null, .int 0])), (a0, .inl (T 0, 10, .inl (fun _ => 0))), (a1, .inl (T 0, 10, .inl (fun _ => 0)))]) rfl ?_
  refine zg_aload_n X dX5_init_20 rfl ?_
  refine zg_bipush X (v := 10) dX5_init_21 (by decide) ?_
  refine zg_newa X (atype := .boolean) (ty := .boolean) rfl ar2 (t0 := 2) rfl (fun _ _ h => h) (N' := 10) (a0 := (10, .inl (fun _ => 0))) (fun _ => rfl) (by decide) (by decide) (Nat.le_of_ble_eq_true rfl) (Nat.le_of_ble_eq_true rfl) (Nat.le_of_ble_eq_true rfl) dX5_init_23 (fun a2 => ?_)
  refine zg_w (w' := [(h, .inr (7, [.ref a0, .ref a1, .null, .null, .int 0])), (a0, .inl (T 0, 10, .inl (fun _ => 0))), (a1, .inl (T 0, 10, .inl (fun _ => 0))), (a2, .inl (T 2, 10, .inl (fun _ => 0)))]) rfl ?_
  refine zg_putF X f5 tyX5_ok nmX5 (fs := [.ref a0, .ref a1, .null, .null, .int 0]) (q0 := 0) (ci := 7) rfl rfl 2 (by decide) l18 (fun _ h => h) rfl hin rfl (ty := tyX5 2) (tyX5_ok 2 (by decide)) rfl rfl (Nat.le_of_ble_eq_true rfl) dX5_init_25 (w' := [(h, .inr (7, [.ref a0, .ref a1, .ref a2, .null, .int 0])), (a0, .inl (T 0, 10, .inl (fun _ => 0))), (a1, .inl (T 0, 10, .inl (fun _ => 0))), (a2, .inl (T 2, 10, .inl (fun _ => 0)))]) rfl ?_
  refine zg_aload_n X dX5_init_28 rfl ?_
  refine zg_bipush X (v := 10) dX5_init_29 (by decide) ?_
  refine zg_newa X (atype := .int) (ty := .int) rfl ar0 (t0 := 0) rfl (fun _ _ h => h) (N' := 10) (a0 := (10, .inl (fun _ => 0))) (fun _ => rfl) (by decide) (by decide) (Nat.le_of_ble_eq_true rfl) (Nat.le_of_ble_eq_true rfl) (Nat.le_of_ble_eq_true rfl) dX5_init_31 (fun a3 => ?_)
  refine zg_w (w' := [(h, .inr (7, [.ref a0, .ref a1, .ref a2, .null, .int 0])), (a0, .inl (T 0, 10, .inl (fun _ => 0))), (a1, .inl (T 0, 10, .inl (fun _ => 0))), (a2, .inl (T 2, 10, .inl (fun _ => 0))), (a3, .inl (T 0, 10, .inl (fun _ => 0)))]) rfl ?_
  refine zg_putF X f5 tyX5_ok nmX5 (fs := [.ref a0, .ref a1, .ref a2, .null, .int 0]) (q0 := 0) (ci := 7) rfl rfl 3 (by decide) l22 (fun _ h => h) rfl hin rfl (ty := tyX5 3) (tyX5_ok 3 (by decide)) rfl rfl (Nat.le_of_ble_eq_true rfl) dX5_init_33 (w' := [(h, .inr (7, [.ref a0, .ref a1, .ref a2, .ref a3, .int 0])), (a0, .inl (T 0, 10, .inl (fun _ => 0))), (a1, .inl (T 0, 10, .inl (fun _ => 0))), (a2, .inl (T 2, 10, .inl (fun _ => 0))), (a3, .inl (T 0, 10, .inl (fun _ => 0)))]) rfl ?_
  refine zg_aload_n X dX5_init_36 rfl ?_
  refine zg_iconst X (v := 0) dX5_init_37 (by decide) ?_
  refine zg_put X f5 tyX5_ok nmX5 (fs := [.ref a0, .ref a1, .ref a2, .ref a3, .int 0]) (q0 := 0) (ci := 7) rfl rfl 4 (by decide) l25 (fun _ h => h) rfl (ty := tyX5 4) (tyX5_ok 4 (by decide)) rfl rfl (Nat.le_of_ble_eq_true rfl) dX5_init_38 (w' := [(h, .inr (7, [.ref a0, .ref a1, .ref a2, .ref a3, .int 0])), (a0, .inl (T 0, 10, .inl (fun _ => 0))), (a1, .inl (T 0, 10, .inl (fun _ => 0))), (a2, .inl (T 2, 10, .inl (fun _ => 0))), (a3, .inl (T 0, 10, .inl (fun _ => 0)))]) rfl ?_
  exact zg_vret X hr dX5_init_41 (Nat.le_of_ble_eq_true rfl) (Nat.le_of_ble_eq_true rfl) ⟨a0, a1, a2, a3, rfl⟩

theorem qd_X2_init : yX2_init.cls ≠ "java/lang/invoke/MethodHandle" ∧ yX2_init.cls ≠ "java/lang/invoke/VarHandle" ∧ (parseMethodDescriptor yX2_init.desc).map (fun d => d.parameters.length) = some 0 := by decide +kernel
theorem qv_X2_init : yX2_init.cls = RX2 ∧ yX2_init.cls ≠ "java/lang/invoke/MethodHandle" ∧ yX2_init.cls ≠ "java/lang/invoke/VarHandle" ∧ (parseMethodDescriptor yX2_init.desc).map (fun d => d.parameters.length) = some 0 := ⟨rfl, qd_X2_init⟩
set_option maxHeartbeats 4000000 in
set_option maxRecDepth 100000 in
theorem k_X2_init (l : Launch) (D : va_G) (T : Nat → ClassId) (h : Nat) : zM l yX2_init wsX2_init ({ frames := 1, cells := 6, slots := 144, locals := 30 }) D (zT T) [.ref h] [(h, .inr (4, [.null, .null, .null, .null, .null, .null, .int 0]))] 6 144 (qV D (zT T) (fun w => ∃ q0 q1 q2 q3 q4 q5 : Nat, w = [(h, .inr (4, [.ref q0, .ref q1, .ref q2, .ref q3, .ref q4, .ref q5, .int 0])), (q0, .inl (T 0, 24, .inl (fun _ => 0))), (q1, .inl (T 0, 24, .inl (fun _ => 0))), (q2, .inl (T 0, 24, .inl (fun _ => 0))), (q3, .inl (T 1, 24, .inl (fun _ => 0))), (q4, .inl (T 0, 24, .inl (fun _ => 0))), (q5, .inl (T 0, 24, .inl (fun _ => 0)))])) := by
  refine zg_of (cc := cX2_init) (maxL := 1) (ret := none) (by decide) rfl (Nat.le_of_ble_eq_true rfl) (fun p e s m below meth c A hin hr X => ?_)
  have X : zC p s m _ meth c cX2_init 1 wsX2_init RX2 D (zT T) A := X
  have f2 : ∀ w ∈ u_ws RX2 TX2 7, w ∈ wsX2_init := by decide +kernel
  have l3 : Cond.methodLink RX2 3 objectInit ∈ wsX2_init := by decide +kernel
  have oi : Cond.instanceMethod objectInit ∈ wsX2_init := by decide +kernel
  have oc : Cond.code objectInit ⟨#[0xb1]⟩ 1 none ∈ wsX2_init := by decide +kernel
  have ar0 : Cond.arrayClass .int ∈ wsX2_init := by decide +kernel
  have l9 : Cond.fieldLink RX2 9 "Recertify$Grants" "rights" "[I" ∈ wsX2_init := by decide +kernel
  have l15 : Cond.fieldLink RX2 15 "Recertify$Grants" "people" "[I" ∈ wsX2_init := by decide +kernel
  have l18 : Cond.fieldLink RX2 18 "Recertify$Grants" "groups" "[I" ∈ wsX2_init := by decide +kernel
  have ar1 : Cond.arrayClass .char ∈ wsX2_init := by decide +kernel
  have l21 : Cond.fieldLink RX2 21 "Recertify$Grants" "states" "[C" ∈ wsX2_init := by decide +kernel
  have l25 : Cond.fieldLink RX2 25 "Recertify$Grants" "dueDays" "[I" ∈ wsX2_init := by decide +kernel
  have l28 : Cond.fieldLink RX2 28 "Recertify$Grants" "lastUses" "[I" ∈ wsX2_init := by decide +kernel
  have l31 : Cond.fieldLink RX2 31 "Recertify$Grants" "count" "I" ∈ wsX2_init := by decide +kernel
  refine zg_aload_n X dX2_init_0 rfl ?_
  refine zg_obj X l3 oi oc (Nat.le_of_ble_eq_true rfl) (Nat.le_of_ble_eq_true rfl) dX2_init_1 ?_
  refine zg_aload_n X dX2_init_4 rfl ?_
  refine zg_bipush X (v := 24) dX2_init_5 (by decide) ?_
  refine zg_newa X (atype := .int) (ty := .int) rfl ar0 (t0 := 0) rfl (fun _ _ h => h) (N' := 24) (a0 := (24, .inl (fun _ => 0))) (fun _ => rfl) (by decide) (by decide) (Nat.le_of_ble_eq_true rfl) (Nat.le_of_ble_eq_true rfl) (Nat.le_of_ble_eq_true rfl) dX2_init_7 (fun a0 => ?_)
  refine zg_w (w' := [(h, .inr (4, [.null, .null, .null, .null, .null, .null, .int 0])), (a0, .inl (T 0, 24, .inl (fun _ => 0)))]) rfl ?_
  refine zg_putF X f2 tyX2_ok nmX2 (fs := [.null, .null, .null, .null, .null, .null, .int 0]) (q0 := 0) (ci := 4) rfl rfl 0 (by decide) l9 (fun _ h => h) rfl hin rfl (ty := tyX2 0) (tyX2_ok 0 (by decide)) rfl rfl (Nat.le_of_ble_eq_true rfl) dX2_init_9 (w' := [(h, .inr (4, [.ref a0, .null, .null, .null, .null, .null, .int 0])), (a0, .inl (T 0, 24, .inl (fun _ => 0)))]) rfl ?_
  refine zg_aload_n X dX2_init_12 rfl ?_
  refine zg_bipush X (v := 24) dX2_init_13 (by decide) ?_
  refine zg_newa X (atype := .int) (ty := .int) rfl ar0 (t0 := 0) rfl (fun _ _ h => h) (N' := 24) (a0 := (24, .inl (fun _ => 0))) (fun _ => rfl) (by decide) (by decide) (Nat.le_of_ble_eq_true rfl) (Nat.le_of_ble_eq_true rfl) (Nat.le_of_ble_eq_true rfl) dX2_init_15 (fun a1 => ?_)
  refine zg_w (w' := [(h, .inr (4, [.ref a0, .null, .null, .null, .null, .null, .int 0])), (a0, .inl (T 0, 24, .inl (fun _ => 0))), (a1, .inl (T 0, 24, .inl (fun _ => 0)))]) rfl ?_
  refine zg_putF X f2 tyX2_ok nmX2 (fs := [.ref a0, .null, .null, .null, .null, .null, .int 0]) (q0 := 0) (ci := 4) rfl rfl 1 (by decide) l15 (fun _ h => h) rfl hin rfl (ty := tyX2 1) (tyX2_ok 1 (by decide)) rfl rfl (Nat.le_of_ble_eq_true rfl) dX2_init_17 (w' := [(h, .inr (4, [.ref a0, .ref a1, .null, .null, .null, .null, .int 0])), (a0, .inl (T 0, 24, .inl (fun _ => 0))), (a1, .inl (T 0, 24, .inl (fun _ => 0)))]) rfl ?_
  refine zg_aload_n X dX2_init_20 rfl ?_
  refine zg_bipush X (v := 24) dX2_init_21 (by decide) ?_
  refine zg_newa X (atype := .int) (ty := .int) rfl ar0 (t0 := 0) rfl (fun _ _ h => h) (N' := 24) (a0 := (24, .inl (fun _ => 0))) (fun _ => rfl) (by decide) (by decide) (Nat.le_of_ble_eq_true rfl) (Nat.le_of_ble_eq_true rfl) (Nat.le_of_ble_eq_true rfl) dX2_init_23 (fun a2 => ?_)
  refine zg_w (w' := [(h, .inr (4, [.ref a0, .ref a1, .null, .null, .null, .null, .int 0])), (a0, .inl (T 0, 24, .inl (fun _ => 0))), (a1, .inl (T 0, 24, .inl (fun _ => 0))), (a2, .inl (T 0, 24, .inl (fun _ => 0)))]) rfl ?_
  refine zg_putF X f2 tyX2_ok nmX2 (fs := [.ref a0, .ref a1, .null, .null, .null, .null, .int 0]) (q0 := 0) (ci := 4) rfl rfl 2 (by decide) l18 (fun _ h => h) rfl hin rfl (ty := tyX2 2) (tyX2_ok 2 (by decide)) rfl rfl (Nat.le_of_ble_eq_true rfl) dX2_init_25 (w' := [(h, .inr (4, [.ref a0, .ref a1, .ref a2, .null, .null, .null, .int 0])), (a0, .inl (T 0, 24, .inl (fun _ => 0))), (a1, .inl (T 0, 24, .inl (fun _ => 0))), (a2, .inl (T 0, 24, .inl (fun _ => 0)))]) rfl ?_
  refine zg_aload_n X dX2_init_28 rfl ?_
  refine zg_bipush X (v := 24) dX2_init_29 (by decide) ?_
  refine zg_newa X (atype := .char) (ty := .char) rfl ar1 (t0 := 1) rfl (fun _ _ h => h) (N' := 24) (a0 := (24, .inl (fun _ => 0))) (fun _ => rfl) (by decide) (by decide) (Nat.le_of_ble_eq_true rfl) (Nat.le_of_ble_eq_true rfl) (Nat.le_of_ble_eq_true rfl) dX2_init_31 (fun a3 => ?_)
  refine zg_w (w' := [(h, .inr (4, [.ref a0, .ref a1, .ref a2, .null, .null, .null, .int 0])), (a0, .inl (T 0, 24, .inl (fun _ => 0))), (a1, .inl (T 0, 24, .inl (fun _ => 0))), (a2, .inl (T 0, 24, .inl (fun _ => 0))), (a3, .inl (T 1, 24, .inl (fun _ => 0)))]) rfl ?_
  refine zg_putF X f2 tyX2_ok nmX2 (fs := [.ref a0, .ref a1, .ref a2, .null, .null, .null, .int 0]) (q0 := 0) (ci := 4) rfl rfl 3 (by decide) l21 (fun _ h => h) rfl hin rfl (ty := tyX2 3) (tyX2_ok 3 (by decide)) rfl rfl (Nat.le_of_ble_eq_true rfl) dX2_init_33 (w' := [(h, .inr (4, [.ref a0, .ref a1, .ref a2, .ref a3, .null, .null, .int 0])), (a0, .inl (T 0, 24, .inl (fun _ => 0))), (a1, .inl (T 0, 24, .inl (fun _ => 0))), (a2, .inl (T 0, 24, .inl (fun _ => 0))), (a3, .inl (T 1, 24, .inl (fun _ => 0)))]) rfl ?_
  refine zg_aload_n X dX2_init_36 rfl ?_
  refine zg_bipush X (v := 24) dX2_init_37 (by decide) ?_
  refine zg_newa X (atype := .int) (ty := .int) rfl ar0 (t0 := 0) rfl (fun _ _ h => h) (N' := 24) (a0 := (24, .inl (fun _ => 0))) (fun _ => rfl) (by decide) (by decide) (Nat.le_of_ble_eq_true rfl) (Nat.le_of_ble_eq_true rfl) (Nat.le_of_ble_eq_true rfl) dX2_init_39 (fun a4 => ?_)
  refine zg_w (w' := [(h, .inr (4, [.ref a0, .ref a1, .ref a2, .ref a3, .null, .null, .int 0])), (a0, .inl (T 0, 24, .inl (fun _ => 0))), (a1, .inl (T 0, 24, .inl (fun _ => 0))), (a2, .inl (T 0, 24, .inl (fun _ => 0))), (a3, .inl (T 1, 24, .inl (fun _ => 0))), (a4, .inl (T 0, 24, .inl (fun _ => 0)))]) rfl ?_
  refine zg_putF X f2 tyX2_ok nmX2 (fs := [.ref a0, .ref a1, .ref a2, .ref a3, .null, .null, .int 0]) (q0 := 0) (ci := 4) rfl rfl 4 (by decide) l25 (fun _ h => h) rfl hin rfl (ty := tyX2 4) (tyX2_ok 4 (by decide)) rfl rfl (Nat.le_of_ble_eq_true rfl) dX2_init_41 (w' := [(h, .inr (4, [.ref a0, .ref a1, .ref a2, .ref a3, .ref a4, .null, .int 0])), (a0, .inl (T 0, 24, .inl (fun _ => 0))), (a1, .inl (T 0, 24, .inl (fun _ => 0))), (a2, .inl (T 0, 24, .inl (fun _ => 0))), (a3, .inl (T 1, 24, .inl (fun _ => 0))), (a4, .inl (T 0, 24, .inl (fun _ => 0)))]) rfl ?_
  refine zg_aload_n X dX2_init_44 rfl ?_
  refine zg_bipush X (v := 24) dX2_init_45 (by decide) ?_
  refine zg_newa X (atype := .int) (ty := .int) rfl ar0 (t0 := 0) rfl (fun _ _ h => h) (N' := 24) (a0 := (24, .inl (fun _ => 0))) (fun _ => rfl) (by decide) (by decide) (Nat.le_of_ble_eq_true rfl) (Nat.le_of_ble_eq_true rfl) (Nat.le_of_ble_eq_true rfl) dX2_init_47 (fun a5 => ?_)
  refine zg_w (w' := [(h, .inr (4, [.ref a0, .ref a1, .ref a2, .ref a3, .ref a4, .null, .int 0])), (a0, .inl (T 0, 24, .inl (fun _ => 0))), (a1, .inl (T 0, 24, .inl (fun _ => 0))), (a2, .inl (T 0, 24, .inl (fun _ => 0))), (a3, .inl (T 1, 24, .inl (fun _ => 0))), (a4, .inl (T 0, 24, .inl (fun _ => 0))), (a5, .inl (T 0, 24, .inl (fun _ => 0)))]) rfl ?_
  refine zg_putF X f2 tyX2_ok nmX2 (fs := [.ref a0, .ref a1, .ref a2, .ref a3, .ref a4, .null, .int 0]) (q0 := 0) (ci := 4) rfl rfl 5 (by decide) l28 (fun _ h => h) rfl hin rfl (ty := tyX2 5) (tyX2_ok 5 (by decide)) rfl rfl (Nat.le_of_ble_eq_true rfl) dX2_init_49 (w' := [(h, .inr (4, [.ref a0, .ref a1, .ref a2, .ref a3, .ref a4, .ref a5, .int 0])), (a0, .inl (T 0, 24, .inl (fun _ => 0))), (a1, .inl (T 0, 24, .inl (fun _ => 0))), (a2, .inl (T 0, 24, .inl (fun _ => 0))), (a3, .inl (T 1, 24, .inl (fun _ => 0))), (a4, .inl (T 0, 24, .inl (fun _ => 0))), (a5, .inl (T 0, 24, .inl (fun _ => 0)))]) rfl ?_
  refine zg_aload_n X dX2_init_52 rfl ?_
  refine zg_iconst X (v := 0) dX2_init_53 (by decide) ?_
  refine zg_put X f2 tyX2_ok nmX2 (fs := [.ref a0, .ref a1, .ref a2, .ref a3, .ref a4, .ref a5, .int 0]) (q0 := 0) (ci := 4) rfl rfl 6 (by decide) l31 (fun _ h => h) rfl (ty := tyX2 6) (tyX2_ok 6 (by decide)) rfl rfl (Nat.le_of_ble_eq_true rfl) dX2_init_54 (w' := [(h, .inr (4, [.ref a0, .ref a1, .ref a2, .ref a3, .ref a4, .ref a5, .int 0])), (a0, .inl (T 0, 24, .inl (fun _ => 0))), (a1, .inl (T 0, 24, .inl (fun _ => 0))), (a2, .inl (T 0, 24, .inl (fun _ => 0))), (a3, .inl (T 1, 24, .inl (fun _ => 0))), (a4, .inl (T 0, 24, .inl (fun _ => 0))), (a5, .inl (T 0, 24, .inl (fun _ => 0)))]) rfl ?_
  exact zg_vret X hr dX2_init_57 (Nat.le_of_ble_eq_true rfl) (Nat.le_of_ble_eq_true rfl) ⟨a0, a1, a2, a3, a4, a5, rfl⟩

theorem qd_X0_init : yX0_init.cls ≠ "java/lang/invoke/MethodHandle" ∧ yX0_init.cls ≠ "java/lang/invoke/VarHandle" ∧ (parseMethodDescriptor yX0_init.desc).map (fun d => d.parameters.length) = some 0 := by decide +kernel
theorem qv_X0_init : yX0_init.cls = RX0 ∧ yX0_init.cls ≠ "java/lang/invoke/MethodHandle" ∧ yX0_init.cls ≠ "java/lang/invoke/VarHandle" ∧ (parseMethodDescriptor yX0_init.desc).map (fun d => d.parameters.length) = some 0 := ⟨rfl, qd_X0_init⟩
set_option maxHeartbeats 4000000 in
set_option maxRecDepth 100000 in
theorem k_X0_init (l : Launch) (D : va_G) (T : Nat → ClassId) (h : Nat) : zM l yX0_init wsX0_init ({ frames := 1, cells := 3, slots := 72, locals := 30 }) D (zT T) [.ref h] [(h, .inr (2, [.null, .null, .null, .int 0, .int 0, .int 0, .int 0, .int 0]))] 3 72 (qV D (zT T) (fun w => ∃ q0 q1 q2 : Nat, w = [(h, .inr (2, [.ref q0, .ref q1, .ref q2, .int 0, .int 0, .int 0, .int 0, .int 0])), (q0, .inl (T 0, 24, .inl (fun _ => 0))), (q1, .inl (T 1, 24, .inl (fun _ => 0))), (q2, .inl (T 0, 24, .inl (fun _ => 0)))])) := by
  refine zg_of (cc := cX0_init) (maxL := 1) (ret := none) (by decide) rfl (Nat.le_of_ble_eq_true rfl) (fun p e s m below meth c A hin hr X => ?_)
  have X : zC p s m _ meth c cX0_init 1 wsX0_init RX0 D (zT T) A := X
  have f0 : ∀ w ∈ u_ws RX0 TX0 8, w ∈ wsX0_init := by decide +kernel
  have l3 : Cond.methodLink RX0 3 objectInit ∈ wsX0_init := by decide +kernel
  have oi : Cond.instanceMethod objectInit ∈ wsX0_init := by decide +kernel
  have oc : Cond.code objectInit ⟨#[0xb1]⟩ 1 none ∈ wsX0_init := by decide +kernel
  have ar0 : Cond.arrayClass .int ∈ wsX0_init := by decide +kernel
  have l9 : Cond.fieldLink RX0 9 "Recertify$Campaign" "grants" "[I" ∈ wsX0_init := by decide +kernel
  have ar1 : Cond.arrayClass .char ∈ wsX0_init := by decide +kernel
  have l15 : Cond.fieldLink RX0 15 "Recertify$Campaign" "verdicts" "[C" ∈ wsX0_init := by decide +kernel
  have l19 : Cond.fieldLink RX0 19 "Recertify$Campaign" "deciders" "[I" ∈ wsX0_init := by decide +kernel
  have l22 : Cond.fieldLink RX0 22 "Recertify$Campaign" "count" "I" ∈ wsX0_init := by decide +kernel
  have l26 : Cond.fieldLink RX0 26 "Recertify$Campaign" "undecided" "I" ∈ wsX0_init := by decide +kernel
  have l29 : Cond.fieldLink RX0 29 "Recertify$Campaign" "deadline" "I" ∈ wsX0_init := by decide +kernel
  have l32 : Cond.fieldLink RX0 32 "Recertify$Campaign" "everDecided" "I" ∈ wsX0_init := by decide +kernel
  have l35 : Cond.fieldLink RX0 35 "Recertify$Campaign" "everRevoked" "I" ∈ wsX0_init := by decide +kernel
  refine zg_aload_n X dX0_init_0 rfl ?_
  refine zg_obj X l3 oi oc (Nat.le_of_ble_eq_true rfl) (Nat.le_of_ble_eq_true rfl) dX0_init_1 ?_
  refine zg_aload_n X dX0_init_4 rfl ?_
  refine zg_bipush X (v := 24) dX0_init_5 (by decide) ?_
  refine zg_newa X (atype := .int) (ty := .int) rfl ar0 (t0 := 0) rfl (fun _ _ h => h) (N' := 24) (a0 := (24, .inl (fun _ => 0))) (fun _ => rfl) (by decide) (by decide) (Nat.le_of_ble_eq_true rfl) (Nat.le_of_ble_eq_true rfl) (Nat.le_of_ble_eq_true rfl) dX0_init_7 (fun a0 => ?_)
  refine zg_w (w' := [(h, .inr (2, [.null, .null, .null, .int 0, .int 0, .int 0, .int 0, .int 0])), (a0, .inl (T 0, 24, .inl (fun _ => 0)))]) rfl ?_
  refine zg_putF X f0 tyX0_ok nmX0 (fs := [.null, .null, .null, .int 0, .int 0, .int 0, .int 0, .int 0]) (q0 := 0) (ci := 2) rfl rfl 0 (by decide) l9 (fun _ h => h) rfl hin rfl (ty := tyX0 0) (tyX0_ok 0 (by decide)) rfl rfl (Nat.le_of_ble_eq_true rfl) dX0_init_9 (w' := [(h, .inr (2, [.ref a0, .null, .null, .int 0, .int 0, .int 0, .int 0, .int 0])), (a0, .inl (T 0, 24, .inl (fun _ => 0)))]) rfl ?_
  refine zg_aload_n X dX0_init_12 rfl ?_
  refine zg_bipush X (v := 24) dX0_init_13 (by decide) ?_
  refine zg_newa X (atype := .char) (ty := .char) rfl ar1 (t0 := 1) rfl (fun _ _ h => h) (N' := 24) (a0 := (24, .inl (fun _ => 0))) (fun _ => rfl) (by decide) (by decide) (Nat.le_of_ble_eq_true rfl) (Nat.le_of_ble_eq_true rfl) (Nat.le_of_ble_eq_true rfl) dX0_init_15 (fun a1 => ?_)
  refine zg_w (w' := [(h, .inr (2, [.ref a0, .null, .null, .int 0, .int 0, .int 0, .int 0, .int 0])), (a0, .inl (T 0, 24, .inl (fun _ => 0))), (a1, .inl (T 1, 24, .inl (fun _ => 0)))]) rfl ?_
  refine zg_putF X f0 tyX0_ok nmX0 (fs := [.ref a0, .null, .null, .int 0, .int 0, .int 0, .int 0, .int 0]) (q0 := 0) (ci := 2) rfl rfl 1 (by decide) l15 (fun _ h => h) rfl hin rfl (ty := tyX0 1) (tyX0_ok 1 (by decide)) rfl rfl (Nat.le_of_ble_eq_true rfl) dX0_init_17 (w' := [(h, .inr (2, [.ref a0, .ref a1, .null, .int 0, .int 0, .int 0, .int 0, .int 0])), (a0, .inl (T 0, 24, .inl (fun _ => 0))), (a1, .inl (T 1, 24, .inl (fun _ => 0)))]) rfl ?_
  refine zg_aload_n X dX0_init_20 rfl ?_
  refine zg_bipush X (v := 24) dX0_init_21 (by decide) ?_
  refine zg_newa X (atype := .int) (ty := .int) rfl ar0 (t0 := 0) rfl (fun _ _ h => h) (N' := 24) (a0 := (24, .inl (fun _ => 0))) (fun _ => rfl) (by decide) (by decide) (Nat.le_of_ble_eq_true rfl) (Nat.le_of_ble_eq_true rfl) (Nat.le_of_ble_eq_true rfl) dX0_init_23 (fun a2 => ?_)
  refine zg_w (w' := [(h, .inr (2, [.ref a0, .ref a1, .null, .int 0, .int 0, .int 0, .int 0, .int 0])), (a0, .inl (T 0, 24, .inl (fun _ => 0))), (a1, .inl (T 1, 24, .inl (fun _ => 0))), (a2, .inl (T 0, 24, .inl (fun _ => 0)))]) rfl ?_
  refine zg_putF X f0 tyX0_ok nmX0 (fs := [.ref a0, .ref a1, .null, .int 0, .int 0, .int 0, .int 0, .int 0]) (q0 := 0) (ci := 2) rfl rfl 2 (by decide) l19 (fun _ h => h) rfl hin rfl (ty := tyX0 2) (tyX0_ok 2 (by decide)) rfl rfl (Nat.le_of_ble_eq_true rfl) dX0_init_25 (w' := [(h, .inr (2, [.ref a0, .ref a1, .ref a2, .int 0, .int 0, .int 0, .int 0, .int 0])), (a0, .inl (T 0, 24, .inl (fun _ => 0))), (a1, .inl (T 1, 24, .inl (fun _ => 0))), (a2, .inl (T 0, 24, .inl (fun _ => 0)))]) rfl ?_
  refine zg_aload_n X dX0_init_28 rfl ?_
  refine zg_iconst X (v := 0) dX0_init_29 (by decide) ?_
  refine zg_put X f0 tyX0_ok nmX0 (fs := [.ref a0, .ref a1, .ref a2, .int 0, .int 0, .int 0, .int 0, .int 0]) (q0 := 0) (ci := 2) rfl rfl 3 (by decide) l22 (fun _ h => h) rfl (ty := tyX0 3) (tyX0_ok 3 (by decide)) rfl rfl (Nat.le_of_ble_eq_true rfl) dX0_init_30 (w' := [(h, .inr (2, [.ref a0, .ref a1, .ref a2, .int 0, .int 0, .int 0, .int 0, .int 0])), (a0, .inl (T 0, 24, .inl (fun _ => 0))), (a1, .inl (T 1, 24, .inl (fun _ => 0))), (a2, .inl (T 0, 24, .inl (fun _ => 0)))]) rfl ?_
  refine zg_aload_n X dX0_init_33 rfl ?_
  refine zg_iconst X (v := 0) dX0_init_34 (by decide) ?_
  refine zg_put X f0 tyX0_ok nmX0 (fs := [.ref a0, .ref a1, .ref a2, .int 0, .int 0, .int 0, .int 0, .int 0]) (q0 := 0) (ci := 2) rfl rfl 4 (by decide) l26 (fun _ h => h) rfl (ty := tyX0 4) (tyX0_ok 4 (by decide)) rfl rfl (Nat.le_of_ble_eq_true rfl) dX0_init_35 (w' := [(h, .inr (2, [.ref a0, .ref a1, .ref a2, .int 0, .int 0, .int 0, .int 0, .int 0])), (a0, .inl (T 0, 24, .inl (fun _ => 0))), (a1, .inl (T 1, 24, .inl (fun _ => 0))), (a2, .inl (T 0, 24, .inl (fun _ => 0)))]) rfl ?_
  refine zg_aload_n X dX0_init_38 rfl ?_
  refine zg_iconst X (v := 0) dX0_init_39 (by decide) ?_
  refine zg_put X f0 tyX0_ok nmX0 (fs := [.ref a0, .ref a1, .ref a2, .int 0, .int 0, .int 0, .int 0, .int 0]) (q0 := 0) (ci := 2) rfl rfl 5 (by decide) l29 (fun _ h => h) rfl (ty := tyX0 5) (tyX0_ok 5 (by decide)) rfl rfl (Nat.le_of_ble_eq_true rfl) dX0_init_40 (w' := [(h, .inr (2, [.ref a0, .ref a1, .ref a2, .int 0, .int 0, .int 0, .int 0, .int 0])), (a0, .inl (T 0, 24, .inl (fun _ => 0))), (a1, .inl (T 1, 24, .inl (fun _ => 0))), (a2, .inl (T 0, 24, .inl (fun _ => 0)))]) rfl ?_
  refine zg_aload_n X dX0_init_43 rfl ?_
  refine zg_iconst X (v := 0) dX0_init_44 (by decide) ?_
  refine zg_put X f0 tyX0_ok nmX0 (fs := [.ref a0, .ref a1, .ref a2, .int 0, .int 0, .int 0, .int 0, .int 0]) (q0 := 0) (ci := 2) rfl rfl 6 (by decide) l32 (fun _ h => h) rfl (ty := tyX0 6) (tyX0_ok 6 (by decide)) rfl rfl (Nat.le_of_ble_eq_true rfl) dX0_init_45 (w' := [(h, .inr (2, [.ref a0, .ref a1, .ref a2, .int 0, .int 0, .int 0, .int 0, .int 0])), (a0, .inl (T 0, 24, .inl (fun _ => 0))), (a1, .inl (T 1, 24, .inl (fun _ => 0))), (a2, .inl (T 0, 24, .inl (fun _ => 0)))]) rfl ?_
  refine zg_aload_n X dX0_init_48 rfl ?_
  refine zg_iconst X (v := 0) dX0_init_49 (by decide) ?_
  refine zg_put X f0 tyX0_ok nmX0 (fs := [.ref a0, .ref a1, .ref a2, .int 0, .int 0, .int 0, .int 0, .int 0]) (q0 := 0) (ci := 2) rfl rfl 7 (by decide) l35 (fun _ h => h) rfl (ty := tyX0 7) (tyX0_ok 7 (by decide)) rfl rfl (Nat.le_of_ble_eq_true rfl) dX0_init_50 (w' := [(h, .inr (2, [.ref a0, .ref a1, .ref a2, .int 0, .int 0, .int 0, .int 0, .int 0])), (a0, .inl (T 0, 24, .inl (fun _ => 0))), (a1, .inl (T 1, 24, .inl (fun _ => 0))), (a2, .inl (T 0, 24, .inl (fun _ => 0)))]) rfl ?_
  exact zg_vret X hr dX0_init_53 (Nat.le_of_ble_eq_true rfl) (Nat.le_of_ble_eq_true rfl) ⟨a0, a1, a2, rfl⟩

theorem qd_X1_init : yX1_init.cls ≠ "java/lang/invoke/MethodHandle" ∧ yX1_init.cls ≠ "java/lang/invoke/VarHandle" ∧ (parseMethodDescriptor yX1_init.desc).map (fun d => d.parameters.length) = some 0 := by decide +kernel
theorem qv_X1_init : yX1_init.cls = RX1 ∧ yX1_init.cls ≠ "java/lang/invoke/MethodHandle" ∧ yX1_init.cls ≠ "java/lang/invoke/VarHandle" ∧ (parseMethodDescriptor yX1_init.desc).map (fun d => d.parameters.length) = some 0 := ⟨rfl, qd_X1_init⟩
set_option maxHeartbeats 4000000 in
set_option maxRecDepth 100000 in
theorem k_X1_init (l : Launch) (D : va_G) (T : Nat → ClassId) (h : Nat) : zM l yX1_init wsX1_init ({ frames := 1, cells := 4, slots := 396, locals := 30 }) D (zT T) [.ref h] [(h, .inr (3, [.null, .null, .null, .null, .int 0]))] 4 396 (qV D (zT T) (fun w => ∃ q0 q1 q2 q3 : Nat, w = [(h, .inr (3, [.ref q0, .ref q1, .ref q2, .ref q3, .int 0])), (q0, .inl (T 1, 99, .inl (fun _ => 0))), (q1, .inl (T 0, 99, .inl (fun _ => 0))), (q2, .inl (T 0, 99, .inl (fun _ => 0))), (q3, .inl (T 0, 99, .inl (fun _ => 0)))])) := by
  refine zg_of (cc := cX1_init) (maxL := 1) (ret := none) (by decide) rfl (Nat.le_of_ble_eq_true rfl) (fun p e s m below meth c A hin hr X => ?_)
  have X : zC p s m _ meth c cX1_init 1 wsX1_init RX1 D (zT T) A := X
  have f1 : ∀ w ∈ u_ws RX1 TX1 5, w ∈ wsX1_init := by decide +kernel
  have l3 : Cond.methodLink RX1 3 objectInit ∈ wsX1_init := by decide +kernel
  have oi : Cond.instanceMethod objectInit ∈ wsX1_init := by decide +kernel
  have oc : Cond.code objectInit ⟨#[0xb1]⟩ 1 none ∈ wsX1_init := by decide +kernel
  have ar1 : Cond.arrayClass .char ∈ wsX1_init := by decide +kernel
  have l9 : Cond.fieldLink RX1 9 "Recertify$Evidence" "signs" "[C" ∈ wsX1_init := by decide +kernel
  have ar0 : Cond.arrayClass .int ∈ wsX1_init := by decide +kernel
  have l15 : Cond.fieldLink RX1 15 "Recertify$Evidence" "grants" "[I" ∈ wsX1_init := by decide +kernel
  have l19 : Cond.fieldLink RX1 19 "Recertify$Evidence" "days" "[I" ∈ wsX1_init := by decide +kernel
  have l22 : Cond.fieldLink RX1 22 "Recertify$Evidence" "seals" "[I" ∈ wsX1_init := by decide +kernel
  have l25 : Cond.fieldLink RX1 25 "Recertify$Evidence" "count" "I" ∈ wsX1_init := by decide +kernel
  refine zg_aload_n X dX1_init_0 rfl ?_
  refine zg_obj X l3 oi oc (Nat.le_of_ble_eq_true rfl) (Nat.le_of_ble_eq_true rfl) dX1_init_1 ?_
  refine zg_aload_n X dX1_init_4 rfl ?_
  refine zg_bipush X (v := 99) dX1_init_5 (by decide) ?_
  refine zg_newa X (atype := .char) (ty := .char) rfl ar1 (t0 := 1) rfl (fun _ _ h => h) (N' := 99) (a0 := (99, .inl (fun _ => 0))) (fun _ => rfl) (by decide) (by decide) (Nat.le_of_ble_eq_true rfl) (Nat.le_of_ble_eq_true rfl) (Nat.le_of_ble_eq_true rfl) dX1_init_7 (fun a0 => ?_)
  refine zg_w (w' := [(h, .inr (3, [.null, .null, .null, .null, .int 0])), (a0, .inl (T 1, 99, .inl (fun _ => 0)))]) rfl ?_
  refine zg_putF X f1 tyX1_ok nmX1 (fs := [.null, .null, .null, .null, .int 0]) (q0 := 0) (ci := 3) rfl rfl 0 (by decide) l9 (fun _ h => h) rfl hin rfl (ty := tyX1 0) (tyX1_ok 0 (by decide)) rfl rfl (Nat.le_of_ble_eq_true rfl) dX1_init_9 (w' := [(h, .inr (3, [.ref a0, .null, .null, .null, .int 0])), (a0, .inl (T 1, 99, .inl (fun _ => 0)))]) rfl ?_
  refine zg_aload_n X dX1_init_12 rfl ?_
  refine zg_bipush X (v := 99) dX1_init_13 (by decide) ?_
  refine zg_newa X (atype := .int) (ty := .int) rfl ar0 (t0 := 0) rfl (fun _ _ h => h) (N' := 99) (a0 := (99, .inl (fun _ => 0))) (fun _ => rfl) (by decide) (by decide) (Nat.le_of_ble_eq_true rfl) (Nat.le_of_ble_eq_true rfl) (Nat.le_of_ble_eq_true rfl) dX1_init_15 (fun a1 => ?_)
  refine zg_w (w' := [(h, .inr (3, [.ref a0, .null, .null, .null, .int 0])), (a0, .inl (T 1, 99, .inl (fun _ => 0))), (a1, .inl (T 0, 99, .inl (fun _ => 0)))]) rfl ?_
  refine zg_putF X f1 tyX1_ok nmX1 (fs := [.ref a0, .null, .null, .null, .int 0]) (q0 := 0) (ci := 3) rfl rfl 1 (by decide) l15 (fun _ h => h) rfl hin rfl (ty := tyX1 1) (tyX1_ok 1 (by decide)) rfl rfl (Nat.le_of_ble_eq_true rfl) dX1_init_17 (w' := [(h, .inr (3, [.ref a0, .ref a1, .null, .null, .int 0])), (a0, .inl (T 1, 99, .inl (fun _ => 0))), (a1, .inl (T 0, 99, .inl (fun _ => 0)))]) rfl ?_
  refine zg_aload_n X dX1_init_20 rfl ?_
  refine zg_bipush X (v := 99) dX1_init_21 (by decide) ?_
  refine zg_newa X (atype := .int) (ty := .int) rfl ar0 (t0 := 0) rfl (fun _ _ h => h) (N' := 99) (a0 := (99, .inl (fun _ => 0))) (fun _ => rfl) (by decide) (by decide) (Nat.le_of_ble_eq_true rfl) (Nat.le_of_ble_eq_true rfl) (Nat.le_of_ble_eq_true rfl) dX1_init_23 (fun a2 => ?_)
  refine zg_w (w' := [(h, .inr (3, [.ref a0, .ref a1, .null, .null, .int 0])), (a0, .inl (T 1, 99, .inl (fun _ => 0))), (a1, .inl (T 0, 99, .inl (fun _ => 0))), (a2, .inl (T 0, 99, .inl (fun _ => 0)))]) rfl ?_
  refine zg_putF X f1 tyX1_ok nmX1 (fs := [.ref a0, .ref a1, .null, .null, .int 0]) (q0 := 0) (ci := 3) rfl rfl 2 (by decide) l19 (fun _ h => h) rfl hin rfl (ty := tyX1 2) (tyX1_ok 2 (by decide)) rfl rfl (Nat.le_of_ble_eq_true rfl) dX1_init_25 (w' := [(h, .inr (3, [.ref a0, .ref a1, .ref a2, .null, .int 0])), (a0, .inl (T 1, 99, .inl (fun _ => 0))), (a1, .inl (T 0, 99, .inl (fun _ => 0))), (a2, .inl (T 0, 99, .inl (fun _ => 0)))]) rfl ?_
  refine zg_aload_n X dX1_init_28 rfl ?_
  refine zg_bipush X (v := 99) dX1_init_29 (by decide) ?_
  refine zg_newa X (atype := .int) (ty := .int) rfl ar0 (t0 := 0) rfl (fun _ _ h => h) (N' := 99) (a0 := (99, .inl (fun _ => 0))) (fun _ => rfl) (by decide) (by decide) (Nat.le_of_ble_eq_true rfl) (Nat.le_of_ble_eq_true rfl) (Nat.le_of_ble_eq_true rfl) dX1_init_31 (fun a3 => ?_)
  refine zg_w (w' := [(h, .inr (3, [.ref a0, .ref a1, .ref a2, .null, .int 0])), (a0, .inl (T 1, 99, .inl (fun _ => 0))), (a1, .inl (T 0, 99, .inl (fun _ => 0))), (a2, .inl (T 0, 99, .inl (fun _ => 0))), (a3, .inl (T 0, 99, .inl (fun _ => 0)))]) rfl ?_
  refine zg_putF X f1 tyX1_ok nmX1 (fs := [.ref a0, .ref a1, .ref a2, .null, .int 0]) (q0 := 0) (ci := 3) rfl rfl 3 (by decide) l22 (fun _ h => h) rfl hin rfl (ty := tyX1 3) (tyX1_ok 3 (by decide)) rfl rfl (Nat.le_of_ble_eq_true rfl) dX1_init_33 (w' := [(h, .inr (3, [.ref a0, .ref a1, .ref a2, .ref a3, .int 0])), (a0, .inl (T 1, 99, .inl (fun _ => 0))), (a1, .inl (T 0, 99, .inl (fun _ => 0))), (a2, .inl (T 0, 99, .inl (fun _ => 0))), (a3, .inl (T 0, 99, .inl (fun _ => 0)))]) rfl ?_
  refine zg_aload_n X dX1_init_36 rfl ?_
  refine zg_iconst X (v := 0) dX1_init_37 (by decide) ?_
  refine zg_put X f1 tyX1_ok nmX1 (fs := [.ref a0, .ref a1, .ref a2, .ref a3, .int 0]) (q0 := 0) (ci := 3) rfl rfl 4 (by decide) l25 (fun _ h => h) rfl (ty := tyX1 4) (tyX1_ok 4 (by decide)) rfl rfl (Nat.le_of_ble_eq_true rfl) dX1_init_38 (w' := [(h, .inr (3, [.ref a0, .ref a1, .ref a2, .ref a3, .int 0])), (a0, .inl (T 1, 99, .inl (fun _ => 0))), (a1, .inl (T 0, 99, .inl (fun _ => 0))), (a2, .inl (T 0, 99, .inl (fun _ => 0))), (a3, .inl (T 0, 99, .inl (fun _ => 0)))]) rfl ?_
  exact zg_vret X hr dX1_init_41 (Nat.le_of_ble_eq_true rfl) (Nat.le_of_ble_eq_true rfl) ⟨a0, a1, a2, a3, rfl⟩

