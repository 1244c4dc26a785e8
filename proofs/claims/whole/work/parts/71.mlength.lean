/-! rows of methods, laid by a program of mine (wip/whole/walk.py) out of the bytecode and annotations -/
theorem qd_X7_pathLength : yX7_pathLength.cls ≠ "java/lang/invoke/MethodHandle" ∧ yX7_pathLength.cls ≠ "java/lang/invoke/VarHandle" ∧ (parseMethodDescriptor yX7_pathLength.desc).map (fun d => d.parameters.length) = some 2 := by decide +kernel
theorem qv_X7_pathLength : yX7_pathLength.cls = RX7 ∧ yX7_pathLength.cls ≠ "java/lang/invoke/MethodHandle" ∧ yX7_pathLength.cls ≠ "java/lang/invoke/VarHandle" ∧ (parseMethodDescriptor yX7_pathLength.desc).map (fun d => d.parameters.length) = some 2 := ⟨rfl, qd_X7_pathLength⟩
set_option maxHeartbeats 4000000 in
set_option maxRecDepth 100000 in
theorem k_X7_pathLength (l : Launch) (D : va_G) (ad : Nat → Nat) (T : Nat → ClassId) (σ : ZS) (hI : zI σ) (x y : Int32) (hL : ∀ q r : Nat, q < σ.1 0 → r < σ.1 2 → lenI σ q r = plI σ q r) : zM l yX7_pathLength wsX7_pathLength ({ frames := 13, cells := 0, slots := 0, locals := 629 }) D (zT T) [.ref (ad 0), .int x, .int y] (wM ad T σ) 0 0 (qI D (zT T) (fun v0 w => ∃ t, mR [eNS, eIS] σ (sp_pathLength σ x y) v0 t ∧ w = wM ad T t)) := by
  have hB0 := hI.bd
  obtain ⟨b0, b1, b2, b3, b4, b5⟩ := hI.bd
  refine zg_of (cc := cX7_pathLength) (maxL := 4) (ret := (some .int)) (by decide) rfl (Nat.le_of_ble_eq_true rfl) (fun p e s m below meth c A hin hr X => ?_)
  have X : zC p s m _ meth c cX7_pathLength 4 wsX7_pathLength RX7 D (zT T) A := X
  refine zg_aload_n X dX7_pathLength_0 rfl ?_
  refine zg_iload_n X dX7_pathLength_1 rfl ?_
  refine zg_iload_n X dX7_pathLength_2 rfl ?_
  refine zg_callVi X (k_X7_isNone l D ad T σ hB0 _ _) zFr.rf gX7_pathLength_X7_isNone rfl rfl rfl qv_X7_isNone rfl ⟨Nat.le_of_ble_eq_true rfl, Nat.le_of_ble_eq_true rfl⟩ (q0 := 0) (ci := 9) rfl rfl rfl (Nat.le_of_ble_eq_true rfl) ⟨Nat.le_of_ble_eq_true rfl, Nat.le_of_ble_eq_true rfl⟩ dX7_pathLength_3 (fun r w1 hz9 => ?_)
  obtain ⟨rfl, rfl⟩ := hz9
  refine zg_if_eqb X dX7_pathLength_6 (tgt := 11) (by decide) (fun c_6 => ?_) (fun c_6 => ?_)
  · skip
    have pA : pIn x (σ.1 0) ∧ pIn y (σ.1 2) := Classical.not_not.mp c_6
    refine zg_w (w' := wM ad T (uN σ 8 0)) (by rw [if_pos pA]) ?_
    obtain ⟨p0, p1⟩ := pA
    obtain ⟨j0, h0, e0⟩ := pIn_idx (by omega) p0
    subst e0
    have k0 : j0 < 2 ^ 31 := by omega
    obtain ⟨j1, h1, e1⟩ := pIn_idx (by omega) p1
    subst e1
    have k1 : j1 < 2 ^ 31 := by omega
    refine zg_aload_n X dX7_pathLength_11 rfl ?_
    refine zg_iload_n X dX7_pathLength_12 rfl ?_
    refine zg_iload_n X dX7_pathLength_13 rfl ?_
    refine zg_callVi X (k_X7_source l D ad T (uN σ 8 0) hI j0 j1 h0) zFr.rf gX7_pathLength_X7_source rfl rfl rfl qv_X7_source rfl ⟨Nat.le_of_ble_eq_true rfl, Nat.le_of_ble_eq_true rfl⟩ (q0 := 0) (ci := 9) rfl rfl rfl (Nat.le_of_ble_eq_true rfl) ⟨Nat.le_of_ble_eq_true rfl, Nat.le_of_ble_eq_true rfl⟩ dX7_pathLength_14 (fun r w1 hz9 => ?_)
    obtain ⟨rfl, rfl⟩ := hz9
    refine zg_top (v' := srI σ j0 j1) (srI_ovl ovl_8) ?_
    refine zg_istore_n X dX7_pathLength_17 (by decide) ?_
    refine zg_iload_n X dX7_pathLength_18 rfl ?_
    refine zg_bipush X (v := (-2)) dX7_pathLength_19 (by decide) ?_
    refine zg_icmp_ne X dX7_pathLength_21 (tgt := 30) (by decide) (fun c_21 => ?_) (fun c_21 => ?_)
    · skip
      refine zg_iload_n X dX7_pathLength_30 rfl ?_
      refine zg_if_ge X dX7_pathLength_31 (tgt := 38) (by decide) (fun c_31 => ?_) (fun c_31 => ?_)
      · skip
        obtain ⟨js, hjs, es⟩ := sr_idx hI c_31
        refine zg_aload_n X dX7_pathLength_38 rfl ?_
        refine zg_iload_n X dX7_pathLength_39 rfl ?_
        refine zg_top es ?_
        refine zg_iload_n X dX7_pathLength_40 rfl ?_
        refine zg_callVi X (k_X7_leastFrom l D ad T (uN σ 8 0) hI js j0 hjs (by omega)) zFr.rf gX7_pathLength_X7_leastFrom rfl rfl rfl qv_X7_leastFrom rfl ⟨Nat.le_of_ble_eq_true rfl, Nat.le_of_ble_eq_true rfl⟩ (q0 := 0) (ci := 9) rfl rfl rfl (Nat.le_of_ble_eq_true rfl) ⟨Nat.le_of_ble_eq_true rfl, Nat.le_of_ble_eq_true rfl⟩ dX7_pathLength_41 (fun r w1 hz9 => ?_)
        obtain ⟨rfl, rfl⟩ := hz9
        refine zg_top (v' := lsX σ j0 8 js) (by rw [lsX_ovl ovl_8]) ?_
        exact zg_iret X hr dX7_pathLength_44 (Nat.le_of_ble_eq_true rfl) (Nat.le_of_ble_eq_true rfl) (⟨uN σ 8 0, mR_r (by rw [sp_pathLength, if_pos (And.intro p0 p1), ix_nI k0, ix_nI k1, show lenI σ j0 j1 = lsX σ j0 8 js by rw [hL j0 j1 h0 h1, plI, if_neg c_21, if_pos c_31, es, ix_nI (by omega)], if_neg ls_m1] <;> rfl), rfl⟩)
      · skip
        refine zg_iconst X (v := 0) dX7_pathLength_34 (by decide) ?_
        refine zg_goto X dX7_pathLength_35 (tgt := 44) (by decide) ?_
        exact zg_iret X hr dX7_pathLength_44 (Nat.le_of_ble_eq_true rfl) (Nat.le_of_ble_eq_true rfl) (⟨uN σ 8 0, mR_r (by rw [sp_pathLength, if_pos (And.intro p0 p1), ix_nI k0, ix_nI k1, show lenI σ j0 j1 = 0 by rw [hL j0 j1 h0 h1, plI, if_neg c_21, if_neg c_31], if_neg (show ¬ (0 : Int32) = -1 by decide)] <;> rfl), rfl⟩)
    · skip
      refine zg_aload_n X dX7_pathLength_24 rfl ?_
      refine zg_iconst X (v := 2) dX7_pathLength_25 (by decide) ?_
      refine zg_callVi X (k_X7_fails l D ad T (uN σ 8 0) 2) zFr.rf gX7_pathLength_X7_fails rfl rfl rfl qv_X7_fails rfl ⟨Nat.le_of_ble_eq_true rfl, Nat.le_of_ble_eq_true rfl⟩ (q0 := 0) (ci := 9) rfl rfl rfl (Nat.le_of_ble_eq_true rfl) ⟨Nat.le_of_ble_eq_true rfl, Nat.le_of_ble_eq_true rfl⟩ dX7_pathLength_26 (fun r w1 hz9 => ?_)
      obtain ⟨rfl, rfl⟩ := hz9
      exact zg_iret X hr dX7_pathLength_29 (Nat.le_of_ble_eq_true rfl) (Nat.le_of_ble_eq_true rfl) (⟨uN (uN σ 8 0) 8 2, mR_f 1 (by rw [sp_pathLength, if_pos (And.intro p0 p1), ix_nI k0, ix_nI k1, if_pos (show lenI σ j0 j1 = -1 by rw [hL j0 j1 h0 h1, plI, if_pos c_21])]) rfl rfl, rfl⟩)
  · skip
    refine zg_w (w' := wM ad T (uN σ 8 1)) (by rw [if_neg c_6]) ?_
    refine zg_iconst X (v := 0) dX7_pathLength_9 (by decide) ?_
    exact zg_iret X hr dX7_pathLength_10 (Nat.le_of_ble_eq_true rfl) (Nat.le_of_ble_eq_true rfl) (⟨uN σ 8 1, mR_f1 0 (by rw [sp_pathLength, if_neg c_6]) rfl rfl, rfl⟩)
