/-! rows of methods, laid by a program of mine (wip/whole/walk.py) out of the bytecode and annotations -/
theorem qd_X7_pathsFrom : yX7_pathsFrom.cls ≠ "java/lang/invoke/MethodHandle" ∧ yX7_pathsFrom.cls ≠ "java/lang/invoke/VarHandle" ∧ (parseMethodDescriptor yX7_pathsFrom.desc).map (fun d => d.parameters.length) = some 2 := by decide +kernel
theorem qv_X7_pathsFrom : yX7_pathsFrom.cls = RX7 ∧ yX7_pathsFrom.cls ≠ "java/lang/invoke/MethodHandle" ∧ yX7_pathsFrom.cls ≠ "java/lang/invoke/VarHandle" ∧ (parseMethodDescriptor yX7_pathsFrom.desc).map (fun d => d.parameters.length) = some 2 := ⟨rfl, qd_X7_pathsFrom⟩
set_option maxHeartbeats 4000000 in
set_option maxRecDepth 100000 in
theorem k_X7_pathsFromS (l : Launch) (D : va_G) (ad : Nat → Nat) (T : Nat → ClassId) (σ : ZS) (hI : zI σ) (q d : Nat) (hq0 : q < 32) (ihd : ∀ g : Nat, g < σ.1 1 → rkG σ g ≤ d → zM l yX7_pathsFrom wsX7_pathsFrom ({ frames := d + 3, cells := 0, slots := 0, locals := 60 * d + 100 }) D (zT T) [.ref (ad 0), .int (nI g), .int (nI q)] (wM ad T σ) 0 0 (qI D (zT T) (fun v0 w => v0 = walkX σ q d (nI g) ∧ w = wM ad T (σ)))) (g : Nat) (hg : g < σ.1 1) (hr9 : rkG σ g ≤ d + 1) : zM l yX7_pathsFrom wsX7_pathsFrom ({ frames := d + 1 + 3, cells := 0, slots := 0, locals := 60 * (d + 1) + 100 }) D (zT T) [.ref (ad 0), .int (nI g), .int (nI q)] (wM ad T σ) 0 0 (qI D (zT T) (fun v0 w => v0 = walkX σ q (d + 1) (nI g) ∧ w = wM ad T (σ))) := by
  have hB0 := hI.bd
  obtain ⟨b0, b1, b2, b3, b4, b5⟩ := hI.bd
  refine zg_of (cc := cX7_pathsFrom) (maxL := 5) (ret := (some .int)) (by decide) rfl (Nat.le_of_ble_eq_true rfl) (fun p e s m below meth c A hin hr X => ?_)
  have X : zC p s m _ meth c cX7_pathsFrom 5 wsX7_pathsFrom RX7 D (zT T) A := X
  have f7 : ∀ w ∈ u_ws RX7 TX7 37, w ∈ wsX7_pathsFrom := by decide +kernel
  have l22 : Cond.fieldLink RX7 22 "RecertifyModel" "direct" "[I" ∈ wsX7_pathsFrom := by decide +kernel
  have l25 : Cond.fieldLink RX7 25 "RecertifyModel" "nested" "[I" ∈ wsX7_pathsFrom := by decide +kernel
  have l99 : Cond.fieldLink RX7 99 "RecertifyModel" "groups" "I" ∈ wsX7_pathsFrom := by decide +kernel
  refine zg_aload_n X dX7_pathsFrom_0 rfl ?_
  refine rg_M_direct X f7 l22 dX7_pathsFrom_1 ?_
  refine zg_iload_n X dX7_pathsFrom_4 rfl ?_
  refine rlM_direct X (by omega) dX7_pathsFrom_5 ?_
  refine zg_iload_n X dX7_pathsFrom_6 rfl ?_
  refine zg_callSi X (k_X7_has l D ad T σ _ q hq0) zFr.rf gX7_pathsFrom_X7_has rfl rfl rfl qd_X7_has rfl ⟨by change 0 + 1 ≤ d + 1 + 3; omega, by change 8 + (2 + 11) + 0 ≤ 60 * (d + 1) + 100; omega⟩ rfl (Nat.le_of_ble_eq_true rfl) ⟨Nat.le_of_ble_eq_true rfl, Nat.le_of_ble_eq_true rfl⟩ dX7_pathsFrom_7 (fun r w1 hz9 => ?_)
  obtain ⟨rfl, rfl⟩ := hz9
  refine zg_if_eqb X dX7_pathsFrom_10 (tgt := 17) (by decide) (fun c_10 => ?_) (fun c_10 => ?_)
  · skip
    refine zg_iconst X (v := 0) dX7_pathsFrom_17 (by decide) ?_
    refine zg_istore_n X dX7_pathsFrom_18 (by decide) ?_
    refine zg_iconst X (v := 0) dX7_pathsFrom_19 (by decide) ?_
    refine zg_istore X dX7_pathsFrom_20 (by decide) ?_
    have LP22 : ∀ (fu : Nat) (i : Nat) (acc : Int32), σ.1 1 + 1 ≤ i + fu → i ≤ σ.1 1 → acc = fN (fun i acc => if hB (σ.2.2 5 g) i then acc + walkX σ q d (nI i) else acc) (bI (hB (σ.2.2 4 g) q)) i → zG p l e (headSpec wsX7_pathsFrom ({ frames := d + 1 + 3, cells := 0, slots := 0, locals := 60 * (d + 1) + 100 })).room s m [.ref (ad 0), .int (nI g), .int (nI q)].toArray below meth c D 5 A 0 0 (MQ below (qI D (zT T) (fun v0 w => v0 = walkX σ q (d + 1) (nI g) ∧ w = wM ad T (σ)) A) [.ref (ad 0), .int (nI g), .int (nI q)].toArray s 0 0 A) (wM ad T σ) 22 [(0, .ref (ad 0)), (1, .int (nI g)), (2, .int (nI q)), (3, .int acc), (4, .int (nI i))] [] := by
      intro fu
      induction fu with
      | zero => intro i acc hfu hii _; exact absurd hfu (by omega)
      | succ fu ih22 =>
        intro i acc hfu hii hacc
        refine zg_iload X dX7_pathsFrom_22 rfl ?_
        refine zg_aload_n X dX7_pathsFrom_24 rfl ?_
        refine rg_M_groups X f7 l99 dX7_pathsFrom_25 ?_
        refine zg_icmpn_ge X dX7_pathsFrom_28 (tgt := 65) (by decide) (a := i) (b := σ.1 1) (by omega) (by omega) (fun c_28 => ?_) (fun c_28 => ?_)
        · skip
          refine zg_iload_n X dX7_pathsFrom_65 rfl ?_
          exact zg_iret X hr dX7_pathsFrom_66 (Nat.le_of_ble_eq_true rfl) (Nat.le_of_ble_eq_true rfl) (⟨by rw [walkX_n hI hg, hacc, show i = σ.1 1 by omega], rfl⟩)
        · skip
          refine zg_iload_n X dX7_pathsFrom_31 rfl ?_
          refine zg_aload_n X dX7_pathsFrom_32 rfl ?_
          refine rg_M_nested X f7 l25 dX7_pathsFrom_33 ?_
          refine zg_iload_n X dX7_pathsFrom_36 rfl ?_
          refine rlM_nested X (by omega) dX7_pathsFrom_37 ?_
          refine zg_iload X dX7_pathsFrom_38 rfl ?_
          refine zg_callSi X (k_X7_has l D ad T σ _ i (by omega)) zFr.rf gX7_pathsFrom_X7_has rfl rfl rfl qd_X7_has rfl ⟨by change 0 + 1 ≤ d + 1 + 3; omega, by change 8 + (2 + 11) + 0 ≤ 60 * (d + 1) + 100; omega⟩ rfl (Nat.le_of_ble_eq_true rfl) ⟨Nat.le_of_ble_eq_true rfl, Nat.le_of_ble_eq_true rfl⟩ dX7_pathsFrom_40 (fun r w1 hz9 => ?_)
          obtain ⟨rfl, rfl⟩ := hz9
          refine zg_if_eqb X dX7_pathsFrom_43 (tgt := 56) (by decide) (fun c_43 => ?_) (fun c_43 => ?_)
          · skip
            refine zg_iconst X (v := 0) dX7_pathsFrom_56 (by decide) ?_
            refine zg_iadd X dX7_pathsFrom_57 ?_
            refine zg_top (i32_add0 _) ?_
            refine zg_istore_n X dX7_pathsFrom_58 (by decide) ?_
            refine zg_iinc1 X dX7_pathsFrom_59 (by decide) rfl ?_
            refine zg_goto X dX7_pathsFrom_62 (tgt := 22) (by decide) ?_
            exact zg_lv (by exact ⟨rfl, rfl, rfl, rfl, rfl, trivial⟩) (ih22 (i + 1) _ (by omega) (by omega) (by rw [fN, ← hacc, if_neg c_43]))
          · skip
            refine zg_aload_n X dX7_pathsFrom_46 rfl ?_
            refine zg_iload X dX7_pathsFrom_47 rfl ?_
            refine zg_iload_n X dX7_pathsFrom_49 rfl ?_
            refine zg_callVi X (ihd i (by omega) (by have := rk_lt hI hg (show i < σ.1 1 by omega) c_43; omega)) zFr.rf gX7_pathsFrom_X7_pathsFrom rfl rfl rfl qv_X7_pathsFrom rfl ⟨by change d + 3 + 1 ≤ d + 1 + 3; omega, by change 8 + (5 + 11) + (60 * d + 100) ≤ 60 * (d + 1) + 100; omega⟩ (q0 := 0) (ci := 9) rfl rfl rfl (Nat.le_of_ble_eq_true rfl) ⟨Nat.le_of_ble_eq_true rfl, Nat.le_of_ble_eq_true rfl⟩ dX7_pathsFrom_50 (fun r w1 hz9 => ?_)
            obtain ⟨rfl, rfl⟩ := hz9
            refine zg_goto X dX7_pathsFrom_53 (tgt := 57) (by decide) ?_
            refine zg_iadd X dX7_pathsFrom_57 ?_
            skip
            refine zg_istore_n X dX7_pathsFrom_58 (by decide) ?_
            refine zg_iinc1 X dX7_pathsFrom_59 (by decide) rfl ?_
            refine zg_goto X dX7_pathsFrom_62 (tgt := 22) (by decide) ?_
            exact zg_lv (by exact ⟨rfl, rfl, rfl, rfl, rfl, trivial⟩) (ih22 (i + 1) _ (by omega) (by omega) (by rw [fN, ← hacc, if_pos c_43]))
    exact zg_lv (by exact ⟨rfl, rfl, rfl, rfl, rfl, trivial⟩) (LP22 (σ.1 1 + 1) 0 _ (by omega) (by omega) (by first | exact (bI_f c_10).symm | exact (bI_t c_10).symm))
  · skip
    refine zg_iconst X (v := 1) dX7_pathsFrom_13 (by decide) ?_
    refine zg_goto X dX7_pathsFrom_14 (tgt := 18) (by decide) ?_
    refine zg_istore_n X dX7_pathsFrom_18 (by decide) ?_
    refine zg_iconst X (v := 0) dX7_pathsFrom_19 (by decide) ?_
    refine zg_istore X dX7_pathsFrom_20 (by decide) ?_
    have LP22 : ∀ (fu : Nat) (i : Nat) (acc : Int32), σ.1 1 + 1 ≤ i + fu → i ≤ σ.1 1 → acc = fN (fun i acc => if hB (σ.2.2 5 g) i then acc + walkX σ q d (nI i) else acc) (bI (hB (σ.2.2 4 g) q)) i → zG p l e (headSpec wsX7_pathsFrom ({ frames := d + 1 + 3, cells := 0, slots := 0, locals := 60 * (d + 1) + 100 })).room s m [.ref (ad 0), .int (nI g), .int (nI q)].toArray below meth c D 5 A 0 0 (MQ below (qI D (zT T) (fun v0 w => v0 = walkX σ q (d + 1) (nI g) ∧ w = wM ad T (σ)) A) [.ref (ad 0), .int (nI g), .int (nI q)].toArray s 0 0 A) (wM ad T σ) 22 [(0, .ref (ad 0)), (1, .int (nI g)), (2, .int (nI q)), (3, .int acc), (4, .int (nI i))] [] := by
      intro fu
      induction fu with
      | zero => intro i acc hfu hii _; exact absurd hfu (by omega)
      | succ fu ih22 =>
        intro i acc hfu hii hacc
        refine zg_iload X dX7_pathsFrom_22 rfl ?_
        refine zg_aload_n X dX7_pathsFrom_24 rfl ?_
        refine rg_M_groups X f7 l99 dX7_pathsFrom_25 ?_
        refine zg_icmpn_ge X dX7_pathsFrom_28 (tgt := 65) (by decide) (a := i) (b := σ.1 1) (by omega) (by omega) (fun c_28 => ?_) (fun c_28 => ?_)
        · skip
          refine zg_iload_n X dX7_pathsFrom_65 rfl ?_
          exact zg_iret X hr dX7_pathsFrom_66 (Nat.le_of_ble_eq_true rfl) (Nat.le_of_ble_eq_true rfl) (⟨by rw [walkX_n hI hg, hacc, show i = σ.1 1 by omega], rfl⟩)
        · skip
          refine zg_iload_n X dX7_pathsFrom_31 rfl ?_
          refine zg_aload_n X dX7_pathsFrom_32 rfl ?_
          refine rg_M_nested X f7 l25 dX7_pathsFrom_33 ?_
          refine zg_iload_n X dX7_pathsFrom_36 rfl ?_
          refine rlM_nested X (by omega) dX7_pathsFrom_37 ?_
          refine zg_iload X dX7_pathsFrom_38 rfl ?_
          refine zg_callSi X (k_X7_has l D ad T σ _ i (by omega)) zFr.rf gX7_pathsFrom_X7_has rfl rfl rfl qd_X7_has rfl ⟨by change 0 + 1 ≤ d + 1 + 3; omega, by change 8 + (2 + 11) + 0 ≤ 60 * (d + 1) + 100; omega⟩ rfl (Nat.le_of_ble_eq_true rfl) ⟨Nat.le_of_ble_eq_true rfl, Nat.le_of_ble_eq_true rfl⟩ dX7_pathsFrom_40 (fun r w1 hz9 => ?_)
          obtain ⟨rfl, rfl⟩ := hz9
          refine zg_if_eqb X dX7_pathsFrom_43 (tgt := 56) (by decide) (fun c_43 => ?_) (fun c_43 => ?_)
          · skip
            refine zg_iconst X (v := 0) dX7_pathsFrom_56 (by decide) ?_
            refine zg_iadd X dX7_pathsFrom_57 ?_
            refine zg_top (i32_add0 _) ?_
            refine zg_istore_n X dX7_pathsFrom_58 (by decide) ?_
            refine zg_iinc1 X dX7_pathsFrom_59 (by decide) rfl ?_
            refine zg_goto X dX7_pathsFrom_62 (tgt := 22) (by decide) ?_
            exact zg_lv (by exact ⟨rfl, rfl, rfl, rfl, rfl, trivial⟩) (ih22 (i + 1) _ (by omega) (by omega) (by rw [fN, ← hacc, if_neg c_43]))
          · skip
            refine zg_aload_n X dX7_pathsFrom_46 rfl ?_
            refine zg_iload X dX7_pathsFrom_47 rfl ?_
            refine zg_iload_n X dX7_pathsFrom_49 rfl ?_
            refine zg_callVi X (ihd i (by omega) (by have := rk_lt hI hg (show i < σ.1 1 by omega) c_43; omega)) zFr.rf gX7_pathsFrom_X7_pathsFrom rfl rfl rfl qv_X7_pathsFrom rfl ⟨by change d + 3 + 1 ≤ d + 1 + 3; omega, by change 8 + (5 + 11) + (60 * d + 100) ≤ 60 * (d + 1) + 100; omega⟩ (q0 := 0) (ci := 9) rfl rfl rfl (Nat.le_of_ble_eq_true rfl) ⟨Nat.le_of_ble_eq_true rfl, Nat.le_of_ble_eq_true rfl⟩ dX7_pathsFrom_50 (fun r w1 hz9 => ?_)
            obtain ⟨rfl, rfl⟩ := hz9
            refine zg_goto X dX7_pathsFrom_53 (tgt := 57) (by decide) ?_
            refine zg_iadd X dX7_pathsFrom_57 ?_
            skip
            refine zg_istore_n X dX7_pathsFrom_58 (by decide) ?_
            refine zg_iinc1 X dX7_pathsFrom_59 (by decide) rfl ?_
            refine zg_goto X dX7_pathsFrom_62 (tgt := 22) (by decide) ?_
            exact zg_lv (by exact ⟨rfl, rfl, rfl, rfl, rfl, trivial⟩) (ih22 (i + 1) _ (by omega) (by omega) (by rw [fN, ← hacc, if_pos c_43]))
    exact zg_lv (by exact ⟨rfl, rfl, rfl, rfl, rfl, trivial⟩) (LP22 (σ.1 1 + 1) 0 _ (by omega) (by omega) (by first | exact (bI_f c_10).symm | exact (bI_t c_10).symm))


theorem k_X7_pathsFromD (l : Launch) (D : va_G) (ad : Nat → Nat) (T : Nat → ClassId) (σ : ZS) (hI : zI σ) (q : Nat) (hq0 : q < 32) : ∀ (d : Nat) (g : Nat), g < σ.1 1 → rkG σ g ≤ d → zM l yX7_pathsFrom wsX7_pathsFrom ({ frames := d + 3, cells := 0, slots := 0, locals := 60 * d + 100 }) D (zT T) [.ref (ad 0), .int (nI g), .int (nI q)] (wM ad T σ) 0 0 (qI D (zT T) (fun v0 w => v0 = walkX σ q d (nI g) ∧ w = wM ad T (σ))) := by
  intro d
  induction d with
  | zero => exact fun g hg hr => absurd (rk_pos hI hg) (by omega)
  | succ d ih => exact fun g hg hr => k_X7_pathsFromS l D ad T σ hI q d hq0 ih g hg hr
theorem k_X7_pathsFrom (l : Launch) (D : va_G) (ad : Nat → Nat) (T : Nat → ClassId) (σ : ZS) (hI : zI σ) (g q : Nat) (hg : g < σ.1 1) (hq0 : q < 32) : zM l yX7_pathsFrom wsX7_pathsFrom ({ frames := 11, cells := 0, slots := 0, locals := 580 }) D (zT T) [.ref (ad 0), .int (nI g), .int (nI q)] (wM ad T σ) 0 0 (qI D (zT T) (fun v0 w => v0 = walkX σ q 8 (nI g) ∧ w = wM ad T (σ))) := k_X7_pathsFromD l D ad T σ hI q hq0 8 g hg (rk_le hI)
