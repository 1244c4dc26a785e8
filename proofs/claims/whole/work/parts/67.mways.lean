/-! rows of methods, laid by a program of mine (wip/whole/walk.py) out of the bytecode and annotations -/
theorem qd_X7_paths : yX7_paths.cls ≠ "java/lang/invoke/MethodHandle" ∧ yX7_paths.cls ≠ "java/lang/invoke/VarHandle" ∧ (parseMethodDescriptor yX7_paths.desc).map (fun d => d.parameters.length) = some 2 := by decide +kernel
theorem qv_X7_paths : yX7_paths.cls = RX7 ∧ yX7_paths.cls ≠ "java/lang/invoke/MethodHandle" ∧ yX7_paths.cls ≠ "java/lang/invoke/VarHandle" ∧ (parseMethodDescriptor yX7_paths.desc).map (fun d => d.parameters.length) = some 2 := ⟨rfl, qd_X7_paths⟩
theorem way_g {σ : ZS} {q r g jg : Nat} {acc : Int32} (ha : actOf σ g (nI r)) (e21 : σ.2.2 21 g = -1) (e22 : σ.2.2 22 g = nI jg) (hq : ¬ (-1 : Int32) = nI q := by exact fun z => nI_m1 (by omega) z.symm) : wayF σ q r g acc = acc + walkX σ q 8 (nI jg) := by
  rw [wayF, if_pos ha, e21, e22, if_neg hq]
theorem way_p {σ : ZS} (hI : zI σ) {q r g jp : Nat} {acc : Int32} (hg : g < σ.1 3) (ha : actOf σ g (nI r)) (c : σ.2.2 26 g = 0) (e21 : σ.2.2 21 g = nI jp) : wayF σ q r g acc = if nI jp = nI q then acc + 1 else acc := by
  have e22 : σ.2.2 22 g = -1 := by
    rcases hI.tgt g hg with ⟨j, hj, -, e, -, -⟩ | ⟨j, hj, -, -, -, e⟩
    · exact e
    · rw [e] at c
      exact absurd c (by decide)
  rw [wayF, if_pos ha, e21, e22, walkX_f pIn_m1, i32_add0]
set_option maxHeartbeats 4000000 in
set_option maxRecDepth 100000 in
theorem k_X7_paths (l : Launch) (D : va_G) (ad : Nat → Nat) (T : Nat → ClassId) (σ : ZS) (hI : zI σ) (x y : Int32)  : zM l yX7_paths wsX7_paths ({ frames := 12, cells := 0, slots := 0, locals := 604 }) D (zT T) [.ref (ad 0), .int x, .int y] (wM ad T σ) 0 0 (qI D (zT T) (fun v0 w => ∃ t, mR [eNS] σ (sp_paths σ x y) v0 t ∧ w = wM ad T t)) := by
  have hB0 := hI.bd
  obtain ⟨b0, b1, b2, b3, b4, b5⟩ := hI.bd
  refine zg_of (cc := cX7_paths) (maxL := 5) (ret := (some .int)) (by decide) rfl (Nat.le_of_ble_eq_true rfl) (fun p e s m below meth c A hin hr X => ?_)
  have X : zC p s m _ meth c cX7_paths 5 wsX7_paths RX7 D (zT T) A := X
  have f7 : ∀ w ∈ u_ws RX7 TX7 37, w ∈ wsX7_paths := by decide +kernel
  have l105 : Cond.fieldLink RX7 105 "RecertifyModel" "grants" "I" ∈ wsX7_paths := by decide +kernel
  have l37 : Cond.fieldLink RX7 37 "RecertifyModel" "rightOf" "[I" ∈ wsX7_paths := by decide +kernel
  have l40 : Cond.fieldLink RX7 40 "RecertifyModel" "targets" "[I" ∈ wsX7_paths := by decide +kernel
  have l53 : Cond.fieldLink RX7 53 "RecertifyModel" "isToGroup" "[Z" ∈ wsX7_paths := by decide +kernel
  have l56 : Cond.fieldLink RX7 56 "RecertifyModel" "states" "[C" ∈ wsX7_paths := by decide +kernel
  refine zg_aload_n X dX7_paths_0 rfl ?_
  refine zg_iload_n X dX7_paths_1 rfl ?_
  refine zg_iload_n X dX7_paths_2 rfl ?_
  refine zg_callVi X (k_X7_isNone l D ad T σ hB0 _ _) zFr.rf gX7_paths_X7_isNone rfl rfl rfl qv_X7_isNone rfl ⟨Nat.le_of_ble_eq_true rfl, Nat.le_of_ble_eq_true rfl⟩ (q0 := 0) (ci := 9) rfl rfl rfl (Nat.le_of_ble_eq_true rfl) ⟨Nat.le_of_ble_eq_true rfl, Nat.le_of_ble_eq_true rfl⟩ dX7_paths_3 (fun r w1 hz9 => ?_)
  obtain ⟨rfl, rfl⟩ := hz9
  refine zg_if_eqb X dX7_paths_6 (tgt := 11) (by decide) (fun c_6 => ?_) (fun c_6 => ?_)
  · skip
    have pA : pIn x (σ.1 0) ∧ pIn y (σ.1 2) := Classical.not_not.mp c_6
    refine zg_w (w' := wM ad T (uN σ 8 0)) (by rw [if_pos pA]) ?_
    obtain ⟨p0, p1⟩ := pA
    obtain ⟨j0, h0, e0⟩ := pIn_idx (by omega) p0
    subst e0
    have k0 : j0 < 2 ^ 31 := by omega
    obtain ⟨j1, h1, e1⟩ := pIn_idx (by omega) p1
    subst e1
    have k1 : j1 < 2 ^ 31 := by omega
    refine zg_iconst X (v := 0) dX7_paths_11 (by decide) ?_
    refine zg_istore_n X dX7_paths_12 (by decide) ?_
    refine zg_iconst X (v := 0) dX7_paths_13 (by decide) ?_
    refine zg_istore X dX7_paths_14 (by decide) ?_
    have LP16 : ∀ (fu : Nat) (i : Nat) (acc : Int32), σ.1 3 + 1 ≤ i + fu → i ≤ σ.1 3 → acc = fN (wayF σ j0 j1) 0 i → zG p l e (headSpec wsX7_paths ({ frames := 12, cells := 0, slots := 0, locals := 604 })).room s m [.ref (ad 0), .int (nI j0), .int (nI j1)].toArray below meth c D 5 A 0 0 (MQ below (qI D (zT T) (fun v0 w => ∃ t, mR [eNS] σ (sp_paths σ (nI j0) (nI j1)) v0 t ∧ w = wM ad T t) A) [.ref (ad 0), .int (nI j0), .int (nI j1)].toArray s 0 0 A) (wM ad T (uN σ 8 0)) 16 [(0, .ref (ad 0)), (1, .int (nI j0)), (2, .int (nI j1)), (3, .int acc), (4, .int (nI i))] [] := by
      intro fu
      induction fu with
      | zero => intro i acc hfu hii _; exact absurd hfu (by omega)
      | succ fu ih16 =>
        intro i acc hfu hii hacc
        refine zg_iload X dX7_paths_16 rfl ?_
        refine zg_aload_n X dX7_paths_18 rfl ?_
        refine rg_M_grants X f7 l105 dX7_paths_19 ?_
        refine zg_icmpn_ge X dX7_paths_22 (tgt := 101) (by decide) (a := i) (b := σ.1 3) (by omega) (by omega) (fun c_22 => ?_) (fun c_22 => ?_)
        · skip
          refine zg_iload_n X dX7_paths_101 rfl ?_
          exact zg_iret X hr dX7_paths_102 (Nat.le_of_ble_eq_true rfl) (Nat.le_of_ble_eq_true rfl) (⟨uN σ 8 0, mR_r (by rw [sp_paths, if_pos (And.intro p0 p1), ix_nI k0, ix_nI k1, wayI, show σ.1 3 = i by omega, ← hacc] <;> rfl), rfl⟩)
        · skip
          refine zg_aload_n X dX7_paths_25 rfl ?_
          refine rg_M_states X f7 l56 dX7_paths_26 ?_
          refine zg_iload X dX7_paths_29 rfl ?_
          refine rlM_states X (by omega) dX7_paths_31 ?_
          refine zg_bipush X (v := 120) dX7_paths_32 (by decide) ?_
          refine zg_icmp_eq X dX7_paths_34 (tgt := 95) (by decide) (fun c_34 => ?_) (fun c_34 => ?_)
          · skip
            refine zg_iinc1 X dX7_paths_95 (by decide) rfl ?_
            refine zg_goto X dX7_paths_98 (tgt := 16) (by decide) ?_
            exact zg_lv (by exact ⟨rfl, rfl, rfl, rfl, rfl, trivial⟩) (ih16 (i + 1) _ (by omega) (by omega) (by rw [fN, ← hacc, wayF]; exact (if_neg (fun q => q.2 c_34)).symm))
          · skip
            refine zg_aload_n X dX7_paths_37 rfl ?_
            refine rg_M_rightOf X f7 l37 dX7_paths_38 ?_
            refine zg_iload X dX7_paths_41 rfl ?_
            refine rlM_gRight X (by omega) dX7_paths_43 ?_
            refine zg_iload_n X dX7_paths_44 rfl ?_
            refine zg_icmp_eq X dX7_paths_45 (tgt := 51) (by decide) (fun c_45 => ?_) (fun c_45 => ?_)
            · skip
              refine zg_iload_n X dX7_paths_51 rfl ?_
              refine zg_aload_n X dX7_paths_52 rfl ?_
              refine rg_M_isToGroup X f7 l53 dX7_paths_53 ?_
              refine zg_iload X dX7_paths_56 rfl ?_
              refine rlM_isToGroup X (by omega) dX7_paths_58 ?_
              refine zg_if_eq X dX7_paths_59 (tgt := 77) (by decide) (fun c_59 => ?_) (fun c_59 => ?_)
              · skip
                refine zg_aload_n X dX7_paths_77 rfl ?_
                refine rg_M_targets X f7 l40 dX7_paths_78 ?_
                refine zg_iload X dX7_paths_81 rfl ?_
                refine rlM_targets X (by omega) dX7_paths_83 ?_
                obtain ⟨jp, hjp, e21, e25⟩ := hI.mper i (by omega) c_59
                refine zg_top (show _ = nI jp from e25) ?_
                refine zg_iload_n X dX7_paths_84 rfl ?_
                refine zg_icmpn_ne X dX7_paths_85 (tgt := 92) (by decide) (a := jp) (b := j0) (by omega) (by omega) (fun c_85 => ?_) (fun c_85 => ?_)
                · skip
                  refine zg_iconst X (v := 0) dX7_paths_92 (by decide) ?_
                  refine zg_iadd X dX7_paths_93 ?_
                  refine zg_top (i32_add0 _) ?_
                  refine zg_istore_n X dX7_paths_94 (by decide) ?_
                  refine zg_iinc1 X dX7_paths_95 (by decide) rfl ?_
                  refine zg_goto X dX7_paths_98 (tgt := 16) (by decide) ?_
                  exact zg_lv (by exact ⟨rfl, rfl, rfl, rfl, rfl, trivial⟩) (ih16 (i + 1) _ (by omega) (by omega) (by rw [fN, ← hacc, way_p hI (by omega) (show actOf σ i (nI j1) from ⟨c_45, c_34⟩) c_59 e21, if_neg (fun q => c_85 ((nI_eq (by omega) k0).mp q))]))
                · skip
                  refine zg_iconst X (v := 1) dX7_paths_88 (by decide) ?_
                  refine zg_goto X dX7_paths_89 (tgt := 93) (by decide) ?_
                  refine zg_iadd X dX7_paths_93 ?_
                  skip
                  refine zg_istore_n X dX7_paths_94 (by decide) ?_
                  refine zg_iinc1 X dX7_paths_95 (by decide) rfl ?_
                  refine zg_goto X dX7_paths_98 (tgt := 16) (by decide) ?_
                  exact zg_lv (by exact ⟨rfl, rfl, rfl, rfl, rfl, trivial⟩) (ih16 (i + 1) _ (by omega) (by omega) (by rw [fN, ← hacc, way_p hI (by omega) (show actOf σ i (nI j1) from ⟨c_45, c_34⟩) c_59 e21, if_pos (congrArg nI c_85)]))
              · skip
                refine zg_aload_n X dX7_paths_62 rfl ?_
                refine zg_aload_n X dX7_paths_63 rfl ?_
                refine rg_M_targets X f7 l40 dX7_paths_64 ?_
                refine zg_iload X dX7_paths_67 rfl ?_
                refine rlM_targets X (by omega) dX7_paths_69 ?_
                obtain ⟨jg, hjg, e21, e22, e25⟩ := hI.mgrp i (by omega) c_59
                refine zg_top (show _ = nI jg from e25) ?_
                refine zg_iload_n X dX7_paths_70 rfl ?_
                refine zg_callVi X (k_X7_pathsFrom l D ad T (uN σ 8 0) hI jg j0 hjg (by omega)) zFr.rf gX7_paths_X7_pathsFrom rfl rfl rfl qv_X7_pathsFrom rfl ⟨Nat.le_of_ble_eq_true rfl, Nat.le_of_ble_eq_true rfl⟩ (q0 := 0) (ci := 9) rfl rfl rfl (Nat.le_of_ble_eq_true rfl) ⟨Nat.le_of_ble_eq_true rfl, Nat.le_of_ble_eq_true rfl⟩ dX7_paths_71 (fun r w1 hz9 => ?_)
                obtain ⟨rfl, rfl⟩ := hz9
                refine zg_top (v' := walkX σ j0 8 (nI jg)) (by rw [walkX_ovl ovl_8]) ?_
                refine zg_goto X dX7_paths_74 (tgt := 93) (by decide) ?_
                refine zg_iadd X dX7_paths_93 ?_
                skip
                refine zg_istore_n X dX7_paths_94 (by decide) ?_
                refine zg_iinc1 X dX7_paths_95 (by decide) rfl ?_
                refine zg_goto X dX7_paths_98 (tgt := 16) (by decide) ?_
                exact zg_lv (by exact ⟨rfl, rfl, rfl, rfl, rfl, trivial⟩) (ih16 (i + 1) _ (by omega) (by omega) (by rw [fN, ← hacc, way_g (show actOf σ i (nI j1) from ⟨c_45, c_34⟩) e21 e22]))
            · skip
              refine zg_goto X dX7_paths_48 (tgt := 95) (by decide) ?_
              refine zg_iinc1 X dX7_paths_95 (by decide) rfl ?_
              refine zg_goto X dX7_paths_98 (tgt := 16) (by decide) ?_
              exact zg_lv (by exact ⟨rfl, rfl, rfl, rfl, rfl, trivial⟩) (ih16 (i + 1) _ (by omega) (by omega) (by rw [fN, ← hacc, wayF]; exact (if_neg (fun q => c_45 q.1)).symm))
    exact zg_lv (by exact ⟨rfl, rfl, rfl, rfl, rfl, trivial⟩) (LP16 (σ.1 3 + 1) 0 _ (by omega) (by omega) rfl)
  · skip
    refine zg_w (w' := wM ad T (uN σ 8 1)) (by rw [if_neg c_6]) ?_
    refine zg_iconst X (v := 0) dX7_paths_9 (by decide) ?_
    exact zg_iret X hr dX7_paths_10 (Nat.le_of_ble_eq_true rfl) (Nat.le_of_ble_eq_true rfl) (⟨uN σ 8 1, mR_f1 0 (by rw [sp_paths, if_neg c_6]) rfl rfl, rfl⟩)
