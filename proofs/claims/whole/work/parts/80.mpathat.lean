/-! rows of methods, laid by a program of mine (wip/whole/walk.py) out of the bytecode and annotations -/
theorem qd_X7_pathAt : yX7_pathAt.cls ≠ "java/lang/invoke/MethodHandle" ∧ yX7_pathAt.cls ≠ "java/lang/invoke/VarHandle" ∧ (parseMethodDescriptor yX7_pathAt.desc).map (fun d => d.parameters.length) = some 3 := by decide +kernel
theorem qv_X7_pathAt : yX7_pathAt.cls = RX7 ∧ yX7_pathAt.cls ≠ "java/lang/invoke/MethodHandle" ∧ yX7_pathAt.cls ≠ "java/lang/invoke/VarHandle" ∧ (parseMethodDescriptor yX7_pathAt.desc).map (fun d => d.parameters.length) = some 3 := ⟨rfl, qd_X7_pathAt⟩
set_option maxHeartbeats 4000000 in
set_option maxRecDepth 100000 in
theorem k_X7_pathAt (l : Launch) (D : va_G) (ad : Nat → Nat) (T : Nat → ClassId) (σ : ZS) (hI : zI σ) (x y z : Int32) (hL : ∀ q r : Nat, q < σ.1 0 → r < σ.1 2 → lenI σ q r = plI σ q r) : zM l yX7_pathAt wsX7_pathAt ({ frames := 14, cells := 0, slots := 0, locals := 652 }) D (zT T) [.ref (ad 0), .int x, .int y, .int z] (wM ad T σ) 0 0 (qI D (zT T) (fun v0 w => ∃ t, mR [eNS, eIS, eIO] σ (sp_pathAt σ x y z) v0 t ∧ w = wM ad T t)) := by
  have hB0 := hI.bd
  obtain ⟨b0, b1, b2, b3, b4, b5⟩ := hI.bd
  refine zg_of (cc := cX7_pathAt) (maxL := 8) (ret := (some .int)) (by decide) rfl (Nat.le_of_ble_eq_true rfl) (fun p e s m below meth c A hin hr X => ?_)
  have X : zC p s m _ meth c cX7_pathAt 8 wsX7_pathAt RX7 D (zT T) A := X
  have f7 : ∀ w ∈ u_ws RX7 TX7 37, w ∈ wsX7_pathAt := by decide +kernel
  have l25 : Cond.fieldLink RX7 25 "RecertifyModel" "nested" "[I" ∈ wsX7_pathAt := by decide +kernel
  have l85 : Cond.fieldLink RX7 85 "RecertifyModel" "thrown" "I" ∈ wsX7_pathAt := by decide +kernel
  refine zg_aload_n X dX7_pathAt_0 rfl ?_
  refine zg_iload_n X dX7_pathAt_1 rfl ?_
  refine zg_iload_n X dX7_pathAt_2 rfl ?_
  refine zg_callVi X (k_X7_pathLength l D ad T σ hI x y hL) zFr.rf gX7_pathAt_X7_pathLength rfl rfl rfl qv_X7_pathLength rfl ⟨Nat.le_of_ble_eq_true rfl, Nat.le_of_ble_eq_true rfl⟩ (q0 := 0) (ci := 9) rfl rfl rfl (Nat.le_of_ble_eq_true rfl) ⟨Nat.le_of_ble_eq_true rfl, Nat.le_of_ble_eq_true rfl⟩ dX7_pathAt_3 (fun r w1 hz9 => ?_)
  obtain ⟨t2, hr2, rfl⟩ := hz9
  refine zg_istore X dX7_pathAt_6 (by decide) ?_
  refine zg_aload_n X dX7_pathAt_8 rfl ?_
  refine rg_M_thrown X f7 l85 dX7_pathAt_9 ?_
  refine zg_if_le X dX7_pathAt_12 (tgt := 17) (by decide) (fun c_12 => ?_) (fun c_12 => ?_)
  · skip
    obtain ⟨j0, j1, k, h0, h1, rfl, rfl, rfl, hk8, eL, ho, h7, h8⟩ := pa_ok hI hr2 c_12
    have hI2 : zI t2 := zI_ovl ho hI
    have e11 : t2.1 1 = σ.1 1 := congrFun ho.1 1
    have e10 : t2.1 0 = σ.1 0 := congrFun ho.1 0
    refine zg_iload_n X dX7_pathAt_17 rfl ?_
    refine zg_iconst X (v := 0) dX7_pathAt_18 (by decide) ?_
    refine zg_iload X dX7_pathAt_19 rfl ?_
    refine zg_iconst X (v := 1) dX7_pathAt_21 (by decide) ?_
    refine zg_isub X dX7_pathAt_22 ?_
    refine zg_callSi X (k_X7_isBetween l D ad T t2 z 0 _) zFr.rf gX7_pathAt_X7_isBetween rfl rfl rfl qd_X7_isBetween rfl ⟨Nat.le_of_ble_eq_true rfl, Nat.le_of_ble_eq_true rfl⟩ rfl (Nat.le_of_ble_eq_true rfl) ⟨Nat.le_of_ble_eq_true rfl, Nat.le_of_ble_eq_true rfl⟩ dX7_pathAt_23 (fun r w1 hz9 => ?_)
    obtain ⟨rfl, rfl⟩ := hz9
    refine zg_top (bI_c (show _ ↔ pIn z k from and_congr Iff.rfl (le_sub1 (by omega)))) ?_
    refine zg_if_neb X dX7_pathAt_26 (tgt := 35) (by decide) (fun c_26 => ?_) (fun c_26 => ?_)
    · skip
      have hz : pIn z k := c_26
      obtain ⟨iz, hiz, rfl⟩ := pIn_idx (by omega) hz
      obtain ⟨jg0, hjg0, eg0, hp0, hl0⟩ := pa_0 hI eL (by omega) hk8
      refine zg_aload_n X dX7_pathAt_35 rfl ?_
      refine zg_iload_n X dX7_pathAt_36 rfl ?_
      refine zg_iload_n X dX7_pathAt_37 rfl ?_
      refine zg_callVi X (k_X7_source l D ad T t2 hI2 j0 j1 (by omega)) zFr.rf gX7_pathAt_X7_source rfl rfl rfl qv_X7_source rfl ⟨Nat.le_of_ble_eq_true rfl, Nat.le_of_ble_eq_true rfl⟩ (q0 := 0) (ci := 9) rfl rfl rfl (Nat.le_of_ble_eq_true rfl) ⟨Nat.le_of_ble_eq_true rfl, Nat.le_of_ble_eq_true rfl⟩ dX7_pathAt_38 (fun r w1 hz9 => ?_)
      obtain ⟨rfl, rfl⟩ := hz9
      refine zg_top (v' := nI jg0) ((srI_ovl ho).trans eg0) ?_
      refine zg_istore X dX7_pathAt_41 (by decide) ?_
      refine zg_iconst X (v := 0) dX7_pathAt_43 (by decide) ?_
      refine zg_istore X dX7_pathAt_44 (by decide) ?_
      have LP46 : ∀ (fu : Nat) (i : Nat) (jg : Nat), iz + 1 ≤ i + fu → i ≤ iz → jg < σ.1 1 → onPath σ (grgI σ j1) j0 k i = nI jg → (lsX σ j0 8 jg).toInt = k - i → zG p l e (headSpec wsX7_pathAt ({ frames := 14, cells := 0, slots := 0, locals := 652 })).room s m [.ref (ad 0), .int (nI j0), .int (nI j1), .int (nI iz)].toArray below meth c D 8 A 0 0 (MQ below (qI D (zT T) (fun v0 w => ∃ t, mR [eNS, eIS, eIO] σ (sp_pathAt σ (nI j0) (nI j1) (nI iz)) v0 t ∧ w = wM ad T t) A) [.ref (ad 0), .int (nI j0), .int (nI j1), .int (nI iz)].toArray s 0 0 A) (wM ad T t2) 46 [(0, .ref (ad 0)), (1, .int (nI j0)), (3, .int (nI iz)), (5, .int (nI jg)), (6, .int (nI i))] [] := by
        intro fu
        induction fu with
        | zero => intro i jg hfu hii _ _ _; exact absurd hfu (by omega)
        | succ fu ih46 =>
          intro i jg hfu hii hjg hon hls
          refine zg_iload X dX7_pathAt_46 rfl ?_
          refine zg_iload_n X dX7_pathAt_48 rfl ?_
          refine zg_icmpn_ge X dX7_pathAt_49 (tgt := 105) (by decide) (a := i) (b := iz) (by omega) (by omega) (fun c_49 => ?_) (fun c_49 => ?_)
          · skip
            refine zg_iload X dX7_pathAt_105 rfl ?_
            exact zg_iret X hr dX7_pathAt_107 (Nat.le_of_ble_eq_true rfl) (Nat.le_of_ble_eq_true rfl) (⟨t2, pa_r hI h0 h1 hk8 eL ho h7 h8 hiz (by rw [show iz = i by omega]; exact hon), rfl⟩)
          · skip
            obtain ⟨jn, hjn, en, hln, h5, hl1, hmin⟩ := pa_s hI hk8 (show i + 1 < k by omega) hjg hon hls
            refine zg_iconst X (v := 0) dX7_pathAt_52 (by decide) ?_
            refine zg_istore X dX7_pathAt_53 (by decide) ?_
            have LP55 : ∀ (fu : Nat) (u : Nat), jn + 1 ≤ u + fu → u ≤ jn → zG p l e (headSpec wsX7_pathAt ({ frames := 14, cells := 0, slots := 0, locals := 652 })).room s m [.ref (ad 0), .int (nI j0), .int (nI j1), .int (nI iz)].toArray below meth c D 8 A 0 0 (MQ below (qI D (zT T) (fun v0 w => ∃ t, mR [eNS, eIS, eIO] σ (sp_pathAt σ (nI j0) (nI j1) (nI iz)) v0 t ∧ w = wM ad T t) A) [.ref (ad 0), .int (nI j0), .int (nI j1), .int (nI iz)].toArray s 0 0 A) (wM ad T t2) 55 [(0, .ref (ad 0)), (1, .int (nI j0)), (3, .int (nI iz)), (5, .int (nI jg)), (6, .int (nI i)), (7, .int (nI u))] [] := by
              intro fu
              induction fu with
              | zero => intro u hfu hiu ; exact absurd hfu (by omega)
              | succ fu ih55 =>
                intro u hfu hiu
                refine zg_aload_n X dX7_pathAt_55 rfl ?_
                refine rg_M_nested X f7 l25 dX7_pathAt_56 ?_
                refine zg_iload X dX7_pathAt_59 rfl ?_
                refine rlM_nested X (by omega) dX7_pathAt_61 ?_
                refine zg_top (v' := σ.2.2 5 jg) (congrFun (ho.2.2 5 (by decide)) jg) ?_
                refine zg_iload X dX7_pathAt_62 rfl ?_
                refine zg_callSi X (k_X7_has l D ad T t2 _ u (by omega)) zFr.rf gX7_pathAt_X7_has rfl rfl rfl qd_X7_has rfl ⟨Nat.le_of_ble_eq_true rfl, Nat.le_of_ble_eq_true rfl⟩ rfl (Nat.le_of_ble_eq_true rfl) ⟨Nat.le_of_ble_eq_true rfl, Nat.le_of_ble_eq_true rfl⟩ dX7_pathAt_64 (fun r w1 hz9 => ?_)
                obtain ⟨rfl, rfl⟩ := hz9
                refine zg_if_eqb X dX7_pathAt_67 (tgt := 89) (by decide) (fun c_67 => ?_) (fun c_67 => ?_)
                · skip
                  refine zg_iinc1 X dX7_pathAt_89 (by decide) rfl ?_
                  refine zg_goto X dX7_pathAt_92 (tgt := 55) (by decide) ?_
                  exact zg_lv (by exact ⟨rfl, rfl, rfl, rfl, rfl, rfl, trivial⟩) (ih55 (u + 1) (by omega) (by have : ¬ u = jn := fun q9 => c_67 (by rw [q9]; exact h5); omega))
                · skip
                  refine zg_aload_n X dX7_pathAt_70 rfl ?_
                  refine zg_iload X dX7_pathAt_71 rfl ?_
                  refine zg_iload_n X dX7_pathAt_73 rfl ?_
                  refine zg_callVi X (k_X7_leastFrom l D ad T t2 hI2 u j0 (by omega) (by omega)) zFr.rf gX7_pathAt_X7_leastFrom rfl rfl rfl qv_X7_leastFrom rfl ⟨Nat.le_of_ble_eq_true rfl, Nat.le_of_ble_eq_true rfl⟩ (q0 := 0) (ci := 9) rfl rfl rfl (Nat.le_of_ble_eq_true rfl) ⟨Nat.le_of_ble_eq_true rfl, Nat.le_of_ble_eq_true rfl⟩ dX7_pathAt_74 (fun r w1 hz9 => ?_)
                  obtain ⟨rfl, rfl⟩ := hz9
                  refine zg_top (v' := lsX σ j0 8 u) (by rw [lsX_ovl ho]) ?_
                  refine zg_iconst X (v := 1) dX7_pathAt_77 (by decide) ?_
                  refine zg_iadd X dX7_pathAt_78 ?_
                  refine zg_aload_n X dX7_pathAt_79 rfl ?_
                  refine zg_iload X dX7_pathAt_80 rfl ?_
                  refine zg_iload_n X dX7_pathAt_82 rfl ?_
                  refine zg_callVi X (k_X7_leastFrom l D ad T t2 hI2 jg j0 (by omega) (by omega)) zFr.rf gX7_pathAt_X7_leastFrom rfl rfl rfl qv_X7_leastFrom rfl ⟨Nat.le_of_ble_eq_true rfl, Nat.le_of_ble_eq_true rfl⟩ (q0 := 0) (ci := 9) rfl rfl rfl (Nat.le_of_ble_eq_true rfl) ⟨Nat.le_of_ble_eq_true rfl, Nat.le_of_ble_eq_true rfl⟩ dX7_pathAt_83 (fun r w1 hz9 => ?_)
                  obtain ⟨rfl, rfl⟩ := hz9
                  refine zg_top (v' := lsX σ j0 8 jg) (by rw [lsX_ovl ho]) ?_
                  refine zg_icmp_eq X dX7_pathAt_86 (tgt := 95) (by decide) (fun c_86 => ?_) (fun c_86 => ?_)
                  · skip
                    have eu : u = jn := Classical.byContradiction fun q9 => hmin u (by omega) ⟨c_67, c_86⟩
                    refine zg_iload X dX7_pathAt_95 rfl ?_
                    refine zg_istore X dX7_pathAt_97 (by decide) ?_
                    refine zg_iinc1 X dX7_pathAt_99 (by decide) rfl ?_
                    refine zg_goto X dX7_pathAt_102 (tgt := 46) (by decide) ?_
                    exact zg_lv (by exact ⟨rfl, rfl, rfl, rfl, rfl, trivial⟩) (ih46 (i + 1) u (by omega) (by omega) (by omega) (by rw [eu]; exact en) (by rw [eu]; omega))
                  · skip
                    refine zg_iinc1 X dX7_pathAt_89 (by decide) rfl ?_
                    refine zg_goto X dX7_pathAt_92 (tgt := 55) (by decide) ?_
                    exact zg_lv (by exact ⟨rfl, rfl, rfl, rfl, rfl, rfl, trivial⟩) (ih55 (u + 1) (by omega) (by have : ¬ u = jn := fun q9 => c_86 (by rw [q9]; exact hl1); omega))
            exact zg_lv (by exact ⟨rfl, rfl, rfl, rfl, rfl, rfl, trivial⟩) (LP55 (jn + 1) 0 (by omega) (by omega))
      exact zg_lv (by exact ⟨rfl, rfl, rfl, rfl, rfl, trivial⟩) (LP46 (iz + 1) 0 jg0 (by omega) (by omega) hjg0 hp0 (by omega))
    · skip
      refine zg_aload_n X dX7_pathAt_29 rfl ?_
      refine zg_iconst X (v := 3) dX7_pathAt_30 (by decide) ?_
      refine zg_callVi X (k_X7_fails l D ad T t2 3) zFr.rf gX7_pathAt_X7_fails rfl rfl rfl qv_X7_fails rfl ⟨Nat.le_of_ble_eq_true rfl, Nat.le_of_ble_eq_true rfl⟩ (q0 := 0) (ci := 9) rfl rfl rfl (Nat.le_of_ble_eq_true rfl) ⟨Nat.le_of_ble_eq_true rfl, Nat.le_of_ble_eq_true rfl⟩ dX7_pathAt_31 (fun r w1 hz9 => ?_)
      obtain ⟨rfl, rfl⟩ := hz9
      exact zg_iret X hr dX7_pathAt_34 (Nat.le_of_ble_eq_true rfl) (Nat.le_of_ble_eq_true rfl) (⟨uN t2 8 3, pa_o hI h0 h1 hk8 eL ho h7 c_26, rfl⟩)
  · skip
    refine zg_iconst X (v := 0) dX7_pathAt_15 (by decide) ?_
    exact zg_iret X hr dX7_pathAt_16 (Nat.le_of_ble_eq_true rfl) (Nat.le_of_ble_eq_true rfl) (⟨t2, pa_f hr2 c_12, rfl⟩)
