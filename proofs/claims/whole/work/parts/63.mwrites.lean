/-! rows of methods, laid by a program of mine (wip/whole/walk.py) out of the bytecode and annotations -/
theorem qd_X7_addGroup : yX7_addGroup.cls ≠ "java/lang/invoke/MethodHandle" ∧ yX7_addGroup.cls ≠ "java/lang/invoke/VarHandle" ∧ (parseMethodDescriptor yX7_addGroup.desc).map (fun d => d.parameters.length) = some 1 := by decide +kernel
theorem qv_X7_addGroup : yX7_addGroup.cls = RX7 ∧ yX7_addGroup.cls ≠ "java/lang/invoke/MethodHandle" ∧ yX7_addGroup.cls ≠ "java/lang/invoke/VarHandle" ∧ (parseMethodDescriptor yX7_addGroup.desc).map (fun d => d.parameters.length) = some 1 := ⟨rfl, qd_X7_addGroup⟩
theorem qd_X7_addMember : yX7_addMember.cls ≠ "java/lang/invoke/MethodHandle" ∧ yX7_addMember.cls ≠ "java/lang/invoke/VarHandle" ∧ (parseMethodDescriptor yX7_addMember.desc).map (fun d => d.parameters.length) = some 2 := by decide +kernel
theorem qv_X7_addMember : yX7_addMember.cls = RX7 ∧ yX7_addMember.cls ≠ "java/lang/invoke/MethodHandle" ∧ yX7_addMember.cls ≠ "java/lang/invoke/VarHandle" ∧ (parseMethodDescriptor yX7_addMember.desc).map (fun d => d.parameters.length) = some 2 := ⟨rfl, qd_X7_addMember⟩
theorem qd_X7_addPerson : yX7_addPerson.cls ≠ "java/lang/invoke/MethodHandle" ∧ yX7_addPerson.cls ≠ "java/lang/invoke/VarHandle" ∧ (parseMethodDescriptor yX7_addPerson.desc).map (fun d => d.parameters.length) = some 2 := by decide +kernel
theorem qv_X7_addPerson : yX7_addPerson.cls = RX7 ∧ yX7_addPerson.cls ≠ "java/lang/invoke/MethodHandle" ∧ yX7_addPerson.cls ≠ "java/lang/invoke/VarHandle" ∧ (parseMethodDescriptor yX7_addPerson.desc).map (fun d => d.parameters.length) = some 2 := ⟨rfl, qd_X7_addPerson⟩
theorem qd_X7_addRight : yX7_addRight.cls ≠ "java/lang/invoke/MethodHandle" ∧ yX7_addRight.cls ≠ "java/lang/invoke/VarHandle" ∧ (parseMethodDescriptor yX7_addRight.desc).map (fun d => d.parameters.length) = some 3 := by decide +kernel
theorem qv_X7_addRight : yX7_addRight.cls = RX7 ∧ yX7_addRight.cls ≠ "java/lang/invoke/MethodHandle" ∧ yX7_addRight.cls ≠ "java/lang/invoke/VarHandle" ∧ (parseMethodDescriptor yX7_addRight.desc).map (fun d => d.parameters.length) = some 3 := ⟨rfl, qd_X7_addRight⟩
theorem qd_X7_gives : yX7_gives.cls ≠ "java/lang/invoke/MethodHandle" ∧ yX7_gives.cls ≠ "java/lang/invoke/VarHandle" ∧ (parseMethodDescriptor yX7_gives.desc).map (fun d => d.parameters.length) = some 3 := by decide +kernel
theorem qv_X7_gives : yX7_gives.cls = RX7 ∧ yX7_gives.cls ≠ "java/lang/invoke/MethodHandle" ∧ yX7_gives.cls ≠ "java/lang/invoke/VarHandle" ∧ (parseMethodDescriptor yX7_gives.desc).map (fun d => d.parameters.length) = some 3 := ⟨rfl, qd_X7_gives⟩
theorem qd_X7_grantGroup : yX7_grantGroup.cls ≠ "java/lang/invoke/MethodHandle" ∧ yX7_grantGroup.cls ≠ "java/lang/invoke/VarHandle" ∧ (parseMethodDescriptor yX7_grantGroup.desc).map (fun d => d.parameters.length) = some 2 := by decide +kernel
theorem qv_X7_grantGroup : yX7_grantGroup.cls = RX7 ∧ yX7_grantGroup.cls ≠ "java/lang/invoke/MethodHandle" ∧ yX7_grantGroup.cls ≠ "java/lang/invoke/VarHandle" ∧ (parseMethodDescriptor yX7_grantGroup.desc).map (fun d => d.parameters.length) = some 2 := ⟨rfl, qd_X7_grantGroup⟩
theorem qd_X7_grantPerson : yX7_grantPerson.cls ≠ "java/lang/invoke/MethodHandle" ∧ yX7_grantPerson.cls ≠ "java/lang/invoke/VarHandle" ∧ (parseMethodDescriptor yX7_grantPerson.desc).map (fun d => d.parameters.length) = some 2 := by decide +kernel
theorem qv_X7_grantPerson : yX7_grantPerson.cls = RX7 ∧ yX7_grantPerson.cls ≠ "java/lang/invoke/MethodHandle" ∧ yX7_grantPerson.cls ≠ "java/lang/invoke/VarHandle" ∧ (parseMethodDescriptor yX7_grantPerson.desc).map (fun d => d.parameters.length) = some 2 := ⟨rfl, qd_X7_grantPerson⟩
theorem qd_X7_nest : yX7_nest.cls ≠ "java/lang/invoke/MethodHandle" ∧ yX7_nest.cls ≠ "java/lang/invoke/VarHandle" ∧ (parseMethodDescriptor yX7_nest.desc).map (fun d => d.parameters.length) = some 2 := by decide +kernel
theorem qv_X7_nest : yX7_nest.cls = RX7 ∧ yX7_nest.cls ≠ "java/lang/invoke/MethodHandle" ∧ yX7_nest.cls ≠ "java/lang/invoke/VarHandle" ∧ (parseMethodDescriptor yX7_nest.desc).map (fun d => d.parameters.length) = some 2 := ⟨rfl, qd_X7_nest⟩
theorem qd_X7_removeMember : yX7_removeMember.cls ≠ "java/lang/invoke/MethodHandle" ∧ yX7_removeMember.cls ≠ "java/lang/invoke/VarHandle" ∧ (parseMethodDescriptor yX7_removeMember.desc).map (fun d => d.parameters.length) = some 2 := by decide +kernel
theorem qv_X7_removeMember : yX7_removeMember.cls = RX7 ∧ yX7_removeMember.cls ≠ "java/lang/invoke/MethodHandle" ∧ yX7_removeMember.cls ≠ "java/lang/invoke/VarHandle" ∧ (parseMethodDescriptor yX7_removeMember.desc).map (fun d => d.parameters.length) = some 2 := ⟨rfl, qd_X7_removeMember⟩
theorem qd_X7_setAbsent : yX7_setAbsent.cls ≠ "java/lang/invoke/MethodHandle" ∧ yX7_setAbsent.cls ≠ "java/lang/invoke/VarHandle" ∧ (parseMethodDescriptor yX7_setAbsent.desc).map (fun d => d.parameters.length) = some 2 := by decide +kernel
theorem qv_X7_setAbsent : yX7_setAbsent.cls = RX7 ∧ yX7_setAbsent.cls ≠ "java/lang/invoke/MethodHandle" ∧ yX7_setAbsent.cls ≠ "java/lang/invoke/VarHandle" ∧ (parseMethodDescriptor yX7_setAbsent.desc).map (fun d => d.parameters.length) = some 2 := ⟨rfl, qd_X7_setAbsent⟩
theorem qd_X7_setGrace : yX7_setGrace.cls ≠ "java/lang/invoke/MethodHandle" ∧ yX7_setGrace.cls ≠ "java/lang/invoke/VarHandle" ∧ (parseMethodDescriptor yX7_setGrace.desc).map (fun d => d.parameters.length) = some 1 := by decide +kernel
theorem qv_X7_setGrace : yX7_setGrace.cls = RX7 ∧ yX7_setGrace.cls ≠ "java/lang/invoke/MethodHandle" ∧ yX7_setGrace.cls ≠ "java/lang/invoke/VarHandle" ∧ (parseMethodDescriptor yX7_setGrace.desc).map (fun d => d.parameters.length) = some 1 := ⟨rfl, qd_X7_setGrace⟩
theorem qd_X7_setLimit : yX7_setLimit.cls ≠ "java/lang/invoke/MethodHandle" ∧ yX7_setLimit.cls ≠ "java/lang/invoke/VarHandle" ∧ (parseMethodDescriptor yX7_setLimit.desc).map (fun d => d.parameters.length) = some 1 := by decide +kernel
theorem qv_X7_setLimit : yX7_setLimit.cls = RX7 ∧ yX7_setLimit.cls ≠ "java/lang/invoke/MethodHandle" ∧ yX7_setLimit.cls ≠ "java/lang/invoke/VarHandle" ∧ (parseMethodDescriptor yX7_setLimit.desc).map (fun d => d.parameters.length) = some 1 := ⟨rfl, qd_X7_setLimit⟩
theorem qd_X7_setSubstitute : yX7_setSubstitute.cls ≠ "java/lang/invoke/MethodHandle" ∧ yX7_setSubstitute.cls ≠ "java/lang/invoke/VarHandle" ∧ (parseMethodDescriptor yX7_setSubstitute.desc).map (fun d => d.parameters.length) = some 2 := by decide +kernel
theorem qv_X7_setSubstitute : yX7_setSubstitute.cls = RX7 ∧ yX7_setSubstitute.cls ≠ "java/lang/invoke/MethodHandle" ∧ yX7_setSubstitute.cls ≠ "java/lang/invoke/VarHandle" ∧ (parseMethodDescriptor yX7_setSubstitute.desc).map (fun d => d.parameters.length) = some 2 := ⟨rfl, qd_X7_setSubstitute⟩
theorem qd_X7_use : yX7_use.cls ≠ "java/lang/invoke/MethodHandle" ∧ yX7_use.cls ≠ "java/lang/invoke/VarHandle" ∧ (parseMethodDescriptor yX7_use.desc).map (fun d => d.parameters.length) = some 2 := by decide +kernel
theorem qv_X7_use : yX7_use.cls = RX7 ∧ yX7_use.cls ≠ "java/lang/invoke/MethodHandle" ∧ yX7_use.cls ≠ "java/lang/invoke/VarHandle" ∧ (parseMethodDescriptor yX7_use.desc).map (fun d => d.parameters.length) = some 2 := ⟨rfl, qd_X7_use⟩
theorem gg_leaf {σ : ZS} {ad : Nat → Nat} {T : Nat → ClassId} (hI : zI σ) {j0 j1 : Nat} (p0 : pIn (nI j0) (σ.1 2)) (p1 : pIn (nI j1) (σ.1 1)) (h1 : j1 < σ.1 1) (k0 : j0 < 2 ^ 31) (k1 : j1 < 2 ^ 31) : ∃ t, mR [eNS, eIS] σ (sp_grantGroup σ (nI j0) (nI j1)) (if mdP (uN σ 8 0) (nI j0) (nI j1) 1 then 0 else nI ((uN σ 8 0).1 3)) t ∧ wM ad T (gvS (uN σ 8 0) (nI j0) (nI j1) 1) = wM ad T t := by
  by_cases h : mdP (uN σ 8 0) (nI j0) (nI j1) 1
  · rw [gvS_t h, if_pos h]
    exact ⟨uN (uN σ 8 0) 8 2, mR_f 1 (by rw [sp_grantGroup, if_pos (And.intro p0 p1), if_pos ((mdP_g (σ := σ) hI h1).mp h)]) rfl rfl, rfl⟩
  · rw [gvS_f h, if_neg h]
    exact ⟨uN (gNew σ (nI j0) (-1) (nI j1) (nI j1) 1) 8 0, mR_r (by rw [sp_grantGroup, if_pos (And.intro p0 p1), if_neg (fun q => h ((mdP_g (σ := σ) hI h1).mpr q))] <;> rfl), wM_gg⟩
set_option maxHeartbeats 4000000 in
set_option maxRecDepth 100000 in
theorem k_X7_addPerson (l : Launch) (D : va_G) (ad : Nat → Nat) (T : Nat → ClassId) (σ : ZS) (hI : zI σ) (d mg : Int32)  : zM l yX7_addPerson wsX7_addPerson ({ frames := 2, cells := 0, slots := 0, locals := 43 }) D (zT T) [.ref (ad 0), .int d, .int mg] (wM ad T σ) 0 0 (qI D (zT T) (fun v0 w => ∃ t, mR [eIA, eNS, eIS] σ (sp_addPerson σ d mg) v0 t ∧ w = wM ad T t)) := by
  have hB0 := hI.bd
  obtain ⟨b0, b1, b2, b3, b4, b5⟩ := hI.bd
  refine zg_of (cc := cX7_addPerson) (maxL := 3) (ret := (some .int)) (by decide) rfl (Nat.le_of_ble_eq_true rfl) (fun p e s m below meth c A hin hr X => ?_)
  have X : zC p s m _ meth c cX7_addPerson 3 wsX7_addPerson RX7 D (zT T) A := X
  have f7 : ∀ w ∈ u_ws RX7 TX7 37, w ∈ wsX7_addPerson := by decide +kernel
  have l13 : Cond.fieldLink RX7 13 "RecertifyModel" "managers" "[I" ∈ wsX7_addPerson := by decide +kernel
  have l16 : Cond.fieldLink RX7 16 "RecertifyModel" "substitutes" "[I" ∈ wsX7_addPerson := by decide +kernel
  have l85 : Cond.fieldLink RX7 85 "RecertifyModel" "thrown" "I" ∈ wsX7_addPerson := by decide +kernel
  have l9 : Cond.fieldLink RX7 9 "RecertifyModel" "departments" "[I" ∈ wsX7_addPerson := by decide +kernel
  have l92 : Cond.fieldLink RX7 92 "RecertifyModel" "people" "I" ∈ wsX7_addPerson := by decide +kernel
  refine zg_aload_n X dX7_addPerson_0 rfl ?_
  refine zg_iconst X (v := 0) dX7_addPerson_1 (by decide) ?_
  refine rp_M_thrown X f7 l85 dX7_addPerson_2 ?_
  refine zg_iload_n X dX7_addPerson_5 rfl ?_
  refine zg_iconst X (v := 0) dX7_addPerson_6 (by decide) ?_
  refine zg_iconst X (v := 3) dX7_addPerson_7 (by decide) ?_
  refine zg_callSi X (k_X7_isBetween l D ad T (uN σ 8 0) d 0 3) zFr.rf gX7_addPerson_X7_isBetween rfl rfl rfl qd_X7_isBetween rfl ⟨Nat.le_of_ble_eq_true rfl, Nat.le_of_ble_eq_true rfl⟩ rfl (Nat.le_of_ble_eq_true rfl) ⟨Nat.le_of_ble_eq_true rfl, Nat.le_of_ble_eq_true rfl⟩ dX7_addPerson_8 (fun r w1 hz9 => ?_)
  obtain ⟨rfl, rfl⟩ := hz9
  refine zg_if_neb X dX7_addPerson_11 (tgt := 20) (by decide) (fun c_11 => ?_) (fun c_11 => ?_)
  · skip
    refine zg_iload_n X dX7_addPerson_20 rfl ?_
    refine zg_iconst X (v := (-1)) dX7_addPerson_21 (by decide) ?_
    refine zg_icmp_eq X dX7_addPerson_22 (tgt := 39) (by decide) (fun c_22 => ?_) (fun c_22 => ?_)
    · skip
      have hm : mg = -1 ∨ pIn mg (σ.1 0) := by first | exact Or.inl c_22 | exact Or.inr c_30
      refine zg_aload_n X dX7_addPerson_39 rfl ?_
      refine rg_M_people X f7 l92 dX7_addPerson_40 ?_
      refine zg_bipush X (v := 10) dX7_addPerson_43 (by decide) ?_
      refine zg_icmpn_ne X dX7_addPerson_45 (tgt := 54) (by decide) (a := σ.1 0) (b := 10) (by omega) (by omega) (fun c_45 => ?_) (fun c_45 => ?_)
      · skip
        refine zg_aload_n X dX7_addPerson_54 rfl ?_
        refine rg_M_departments X f7 l9 dX7_addPerson_55 ?_
        refine zg_aload_n X dX7_addPerson_58 rfl ?_
        refine rg_M_people X f7 l92 dX7_addPerson_59 ?_
        refine zg_iload_n X dX7_addPerson_62 rfl ?_
        refine rsM_departments X (show σ.1 0 < 10 by omega) dX7_addPerson_63 ?_
        refine zg_aload_n X dX7_addPerson_64 rfl ?_
        refine rg_M_managers X f7 l13 dX7_addPerson_65 ?_
        refine zg_aload_n X dX7_addPerson_68 rfl ?_
        refine rg_M_people X f7 l92 dX7_addPerson_69 ?_
        refine zg_iload_n X dX7_addPerson_72 rfl ?_
        refine rsM_managers X (show σ.1 0 < 10 by omega) dX7_addPerson_73 ?_
        refine zg_aload_n X dX7_addPerson_74 rfl ?_
        refine rg_M_substitutes X f7 l16 dX7_addPerson_75 ?_
        refine zg_aload_n X dX7_addPerson_78 rfl ?_
        refine rg_M_people X f7 l92 dX7_addPerson_79 ?_
        refine zg_iconst X (v := (-1)) dX7_addPerson_82 (by decide) ?_
        refine rsM_substitutes X (show σ.1 0 < 10 by omega) dX7_addPerson_83 ?_
        refine zg_aload_n X dX7_addPerson_84 rfl ?_
        refine zg_dup X dX7_addPerson_85 rfl ?_
        refine rg_M_people X f7 l92 dX7_addPerson_86 ?_
        refine zg_iconst X (v := 1) dX7_addPerson_89 (by decide) ?_
        refine zg_iadd X dX7_addPerson_90 ?_
        refine zg_top (nI_1 _) ?_
        refine rp_M_people X f7 l92 dX7_addPerson_91 ?_
        refine zg_aload_n X dX7_addPerson_94 rfl ?_
        refine rg_M_people X f7 l92 dX7_addPerson_95 ?_
        refine zg_iconst X (v := 1) dX7_addPerson_98 (by decide) ?_
        refine zg_isub X dX7_addPerson_99 ?_
        refine zg_top (zsub1 (show 0 < σ.1 0 + 1 by omega)) ?_
        exact zg_iret X hr dX7_addPerson_100 (Nat.le_of_ble_eq_true rfl) (Nat.le_of_ble_eq_true rfl) (⟨uN (uC (uA (uA (uA σ 0 (upd (σ.2.2 0) (σ.1 0) d)) 1 (upd (σ.2.2 1) (σ.1 0) mg)) 2 (upd (σ.2.2 2) (σ.1 0) (-1))) 0 (σ.1 0 + 1)) 8 0, mR_r (by rw [sp_addPerson, if_pos (show 0 ≤ d ∧ d ≤ 3 from c_11), if_pos hm, if_neg (show ¬ σ.1 0 = 10 by omega)] <;> rfl), rfl⟩)
      · skip
        refine zg_aload_n X dX7_addPerson_48 rfl ?_
        refine zg_iconst X (v := 3) dX7_addPerson_49 (by decide) ?_
        refine zg_callVi X (k_X7_fails l D ad T (uN σ 8 0) 3) zFr.rf gX7_addPerson_X7_fails rfl rfl rfl qv_X7_fails rfl ⟨Nat.le_of_ble_eq_true rfl, Nat.le_of_ble_eq_true rfl⟩ (q0 := 0) (ci := 9) rfl rfl rfl (Nat.le_of_ble_eq_true rfl) ⟨Nat.le_of_ble_eq_true rfl, Nat.le_of_ble_eq_true rfl⟩ dX7_addPerson_50 (fun r w1 hz9 => ?_)
        obtain ⟨rfl, rfl⟩ := hz9
        exact zg_iret X hr dX7_addPerson_53 (Nat.le_of_ble_eq_true rfl) (Nat.le_of_ble_eq_true rfl) (⟨uN (uN σ 8 0) 8 3, mR_f 2 (by rw [sp_addPerson, if_pos (show 0 ≤ d ∧ d ≤ 3 from c_11), if_pos hm, if_pos (show σ.1 0 = 10 by omega)]) rfl rfl, rfl⟩)
    · skip
      refine zg_aload_n X dX7_addPerson_25 rfl ?_
      refine zg_iload_n X dX7_addPerson_26 rfl ?_
      refine zg_callVi X (k_X7_isPerson l D ad T (uN σ 8 0) hB0 _) zFr.rf gX7_addPerson_X7_isPerson rfl rfl rfl qv_X7_isPerson rfl ⟨Nat.le_of_ble_eq_true rfl, Nat.le_of_ble_eq_true rfl⟩ (q0 := 0) (ci := 9) rfl rfl rfl (Nat.le_of_ble_eq_true rfl) ⟨Nat.le_of_ble_eq_true rfl, Nat.le_of_ble_eq_true rfl⟩ dX7_addPerson_27 (fun r w1 hz9 => ?_)
      obtain ⟨rfl, rfl⟩ := hz9
      refine zg_if_neb X dX7_addPerson_30 (tgt := 39) (by decide) (fun c_30 => ?_) (fun c_30 => ?_)
      · skip
        have hm : mg = -1 ∨ pIn mg (σ.1 0) := by first | exact Or.inl c_22 | exact Or.inr c_30
        refine zg_aload_n X dX7_addPerson_39 rfl ?_
        refine rg_M_people X f7 l92 dX7_addPerson_40 ?_
        refine zg_bipush X (v := 10) dX7_addPerson_43 (by decide) ?_
        refine zg_icmpn_ne X dX7_addPerson_45 (tgt := 54) (by decide) (a := σ.1 0) (b := 10) (by omega) (by omega) (fun c_45 => ?_) (fun c_45 => ?_)
        · skip
          refine zg_aload_n X dX7_addPerson_54 rfl ?_
          refine rg_M_departments X f7 l9 dX7_addPerson_55 ?_
          refine zg_aload_n X dX7_addPerson_58 rfl ?_
          refine rg_M_people X f7 l92 dX7_addPerson_59 ?_
          refine zg_iload_n X dX7_addPerson_62 rfl ?_
          refine rsM_departments X (show σ.1 0 < 10 by omega) dX7_addPerson_63 ?_
          refine zg_aload_n X dX7_addPerson_64 rfl ?_
          refine rg_M_managers X f7 l13 dX7_addPerson_65 ?_
          refine zg_aload_n X dX7_addPerson_68 rfl ?_
          refine rg_M_people X f7 l92 dX7_addPerson_69 ?_
          refine zg_iload_n X dX7_addPerson_72 rfl ?_
          refine rsM_managers X (show σ.1 0 < 10 by omega) dX7_addPerson_73 ?_
          refine zg_aload_n X dX7_addPerson_74 rfl ?_
          refine rg_M_substitutes X f7 l16 dX7_addPerson_75 ?_
          refine zg_aload_n X dX7_addPerson_78 rfl ?_
          refine rg_M_people X f7 l92 dX7_addPerson_79 ?_
          refine zg_iconst X (v := (-1)) dX7_addPerson_82 (by decide) ?_
          refine rsM_substitutes X (show σ.1 0 < 10 by omega) dX7_addPerson_83 ?_
          refine zg_aload_n X dX7_addPerson_84 rfl ?_
          refine zg_dup X dX7_addPerson_85 rfl ?_
          refine rg_M_people X f7 l92 dX7_addPerson_86 ?_
          refine zg_iconst X (v := 1) dX7_addPerson_89 (by decide) ?_
          refine zg_iadd X dX7_addPerson_90 ?_
          refine zg_top (nI_1 _) ?_
          refine rp_M_people X f7 l92 dX7_addPerson_91 ?_
          refine zg_aload_n X dX7_addPerson_94 rfl ?_
          refine rg_M_people X f7 l92 dX7_addPerson_95 ?_
          refine zg_iconst X (v := 1) dX7_addPerson_98 (by decide) ?_
          refine zg_isub X dX7_addPerson_99 ?_
          refine zg_top (zsub1 (show 0 < σ.1 0 + 1 by omega)) ?_
          exact zg_iret X hr dX7_addPerson_100 (Nat.le_of_ble_eq_true rfl) (Nat.le_of_ble_eq_true rfl) (⟨uN (uC (uA (uA (uA σ 0 (upd (σ.2.2 0) (σ.1 0) d)) 1 (upd (σ.2.2 1) (σ.1 0) mg)) 2 (upd (σ.2.2 2) (σ.1 0) (-1))) 0 (σ.1 0 + 1)) 8 0, mR_r (by rw [sp_addPerson, if_pos (show 0 ≤ d ∧ d ≤ 3 from c_11), if_pos hm, if_neg (show ¬ σ.1 0 = 10 by omega)] <;> rfl), rfl⟩)
        · skip
          refine zg_aload_n X dX7_addPerson_48 rfl ?_
          refine zg_iconst X (v := 3) dX7_addPerson_49 (by decide) ?_
          refine zg_callVi X (k_X7_fails l D ad T (uN σ 8 0) 3) zFr.rf gX7_addPerson_X7_fails rfl rfl rfl qv_X7_fails rfl ⟨Nat.le_of_ble_eq_true rfl, Nat.le_of_ble_eq_true rfl⟩ (q0 := 0) (ci := 9) rfl rfl rfl (Nat.le_of_ble_eq_true rfl) ⟨Nat.le_of_ble_eq_true rfl, Nat.le_of_ble_eq_true rfl⟩ dX7_addPerson_50 (fun r w1 hz9 => ?_)
          obtain ⟨rfl, rfl⟩ := hz9
          exact zg_iret X hr dX7_addPerson_53 (Nat.le_of_ble_eq_true rfl) (Nat.le_of_ble_eq_true rfl) (⟨uN (uN σ 8 0) 8 3, mR_f 2 (by rw [sp_addPerson, if_pos (show 0 ≤ d ∧ d ≤ 3 from c_11), if_pos hm, if_pos (show σ.1 0 = 10 by omega)]) rfl rfl, rfl⟩)
      · skip
        refine zg_aload_n X dX7_addPerson_33 rfl ?_
        refine zg_iconst X (v := 2) dX7_addPerson_34 (by decide) ?_
        refine zg_callVi X (k_X7_fails l D ad T (uN σ 8 0) 2) zFr.rf gX7_addPerson_X7_fails rfl rfl rfl qv_X7_fails rfl ⟨Nat.le_of_ble_eq_true rfl, Nat.le_of_ble_eq_true rfl⟩ (q0 := 0) (ci := 9) rfl rfl rfl (Nat.le_of_ble_eq_true rfl) ⟨Nat.le_of_ble_eq_true rfl, Nat.le_of_ble_eq_true rfl⟩ dX7_addPerson_35 (fun r w1 hz9 => ?_)
        obtain ⟨rfl, rfl⟩ := hz9
        exact zg_iret X hr dX7_addPerson_38 (Nat.le_of_ble_eq_true rfl) (Nat.le_of_ble_eq_true rfl) (⟨uN (uN σ 8 0) 8 2, mR_f 1 (by rw [sp_addPerson, if_pos (show 0 ≤ d ∧ d ≤ 3 from c_11), if_neg (show ¬ (mg = -1 ∨ pIn mg (σ.1 0)) from fun q => q.elim c_22 c_30)]) rfl rfl, rfl⟩)
  · skip
    refine zg_aload_n X dX7_addPerson_14 rfl ?_
    refine zg_iconst X (v := 1) dX7_addPerson_15 (by decide) ?_
    refine zg_callVi X (k_X7_fails l D ad T (uN σ 8 0) 1) zFr.rf gX7_addPerson_X7_fails rfl rfl rfl qv_X7_fails rfl ⟨Nat.le_of_ble_eq_true rfl, Nat.le_of_ble_eq_true rfl⟩ (q0 := 0) (ci := 9) rfl rfl rfl (Nat.le_of_ble_eq_true rfl) ⟨Nat.le_of_ble_eq_true rfl, Nat.le_of_ble_eq_true rfl⟩ dX7_addPerson_16 (fun r w1 hz9 => ?_)
    obtain ⟨rfl, rfl⟩ := hz9
    exact zg_iret X hr dX7_addPerson_19 (Nat.le_of_ble_eq_true rfl) (Nat.le_of_ble_eq_true rfl) (⟨uN (uN σ 8 0) 8 1, mR_f 0 (by rw [sp_addPerson, if_neg c_11]) rfl rfl, rfl⟩)

set_option maxHeartbeats 4000000 in
set_option maxRecDepth 100000 in
theorem k_X7_setAbsent (l : Launch) (D : va_G) (ad : Nat → Nat) (T : Nat → ClassId) (σ : ZS) (hI : zI σ) (x b : Int32) (hK : zK σ) (hv : zBo σ) : zM l yX7_setAbsent wsX7_setAbsent ({ frames := 2, cells := 0, slots := 0, locals := 43 }) D (zT T) [.ref (ad 0), .int x, .int b] (wM ad T σ) 0 0 (qI D (zT T) (fun v0 w => ∃ t, mR [eNS] σ (sp_setAbsent σ x b) v0 t ∧ w = wM ad T t)) := by
  have hB0 := hI.bd
  obtain ⟨b0, b1, b2, b3, b4, b5⟩ := hI.bd
  refine zg_of (cc := cX7_setAbsent) (maxL := 4) (ret := (some .boolean)) (by decide) rfl (Nat.le_of_ble_eq_true rfl) (fun p e s m below meth c A hin hr X => ?_)
  have X : zC p s m _ meth c cX7_setAbsent 4 wsX7_setAbsent RX7 D (zT T) A := X
  have f7 : ∀ w ∈ u_ws RX7 TX7 37, w ∈ wsX7_setAbsent := by decide +kernel
  have l119 : Cond.fieldLink RX7 119 "RecertifyModel" "absent" "I" ∈ wsX7_setAbsent := by decide +kernel
  have l85 : Cond.fieldLink RX7 85 "RecertifyModel" "thrown" "I" ∈ wsX7_setAbsent := by decide +kernel
  refine zg_aload_n X dX7_setAbsent_0 rfl ?_
  refine zg_iconst X (v := 0) dX7_setAbsent_1 (by decide) ?_
  refine rp_M_thrown X f7 l85 dX7_setAbsent_2 ?_
  refine zg_aload_n X dX7_setAbsent_5 rfl ?_
  refine zg_iload_n X dX7_setAbsent_6 rfl ?_
  refine zg_callVi X (k_X7_isPerson l D ad T (uN σ 8 0) hB0 _) zFr.rf gX7_setAbsent_X7_isPerson rfl rfl rfl qv_X7_isPerson rfl ⟨Nat.le_of_ble_eq_true rfl, Nat.le_of_ble_eq_true rfl⟩ (q0 := 0) (ci := 9) rfl rfl rfl (Nat.le_of_ble_eq_true rfl) ⟨Nat.le_of_ble_eq_true rfl, Nat.le_of_ble_eq_true rfl⟩ dX7_setAbsent_7 (fun r w1 hz9 => ?_)
  obtain ⟨rfl, rfl⟩ := hz9
  refine zg_if_neb X dX7_setAbsent_10 (tgt := 19) (by decide) (fun c_10 => ?_) (fun c_10 => ?_)
  · skip
    have p0 : pIn x (σ.1 0) := c_10
    obtain ⟨j0, h0, e0⟩ := pIn_idx (by omega) p0
    subst e0
    have k0 : j0 < 2 ^ 31 := by omega
    refine zg_aload_n X dX7_setAbsent_19 rfl ?_
    refine rg_M_absent X f7 l119 dX7_setAbsent_20 ?_
    refine zg_iload_n X dX7_setAbsent_23 rfl ?_
    refine zg_callSi X (k_X7_has l D ad T (uN σ 8 0) _ j0 (by omega)) zFr.rf gX7_setAbsent_X7_has rfl rfl rfl qd_X7_has rfl ⟨Nat.le_of_ble_eq_true rfl, Nat.le_of_ble_eq_true rfl⟩ rfl (Nat.le_of_ble_eq_true rfl) ⟨Nat.le_of_ble_eq_true rfl, Nat.le_of_ble_eq_true rfl⟩ dX7_setAbsent_24 (fun r w1 hz9 => ?_)
    obtain ⟨rfl, rfl⟩ := hz9
    refine zg_top (v' := σ.2.2 19 j0) (abs_v hI hv h0) ?_
    refine zg_istore_n X dX7_setAbsent_27 (by decide) ?_
    refine zg_aload_n X dX7_setAbsent_28 rfl ?_
    refine zg_iload_n X dX7_setAbsent_29 rfl ?_
    refine zg_if_eq X dX7_setAbsent_30 (tgt := 44) (by decide) (fun c_30 => ?_) (fun c_30 => ?_)
    · skip
      refine zg_aload_n X dX7_setAbsent_44 rfl ?_
      refine rg_M_absent X f7 l119 dX7_setAbsent_45 ?_
      refine zg_iconst X (v := 1) dX7_setAbsent_48 (by decide) ?_
      refine zg_iload_n X dX7_setAbsent_49 rfl ?_
      refine zg_ishl X dX7_setAbsent_50 ?_
      refine zg_iconst X (v := (-1)) dX7_setAbsent_51 (by decide) ?_
      refine zg_ixor X dX7_setAbsent_52 ?_
      refine zg_iand X dX7_setAbsent_53 ?_
      refine zg_top (v' := (if b = 0 then σ.2.1 6 &&& (bt1 j0 ^^^ -1) else σ.2.1 6 ||| bt1 j0)) (by rw [if_pos c_30] <;> rfl) ?_
      refine rp_M_absent X f7 l119 dX7_setAbsent_54 ?_
      refine zg_iload_n X dX7_setAbsent_57 rfl ?_
      exact zg_nret X hr ((by first | exact hK.2.2.2 _ | rfl)) dX7_setAbsent_58 (Nat.le_of_ble_eq_true rfl) (Nat.le_of_ble_eq_true rfl) (⟨uN (uN (uA σ 19 (upd (σ.2.2 19) j0 b)) 6 (if b = 0 then σ.2.1 6 &&& (bt1 j0 ^^^ -1) else σ.2.1 6 ||| bt1 j0)) 8 0, mR_r (by rw [sp_setAbsent, if_pos p0, ix_nI k0] <;> rfl), rfl⟩)
    · skip
      refine zg_aload_n X dX7_setAbsent_33 rfl ?_
      refine rg_M_absent X f7 l119 dX7_setAbsent_34 ?_
      refine zg_iconst X (v := 1) dX7_setAbsent_37 (by decide) ?_
      refine zg_iload_n X dX7_setAbsent_38 rfl ?_
      refine zg_ishl X dX7_setAbsent_39 ?_
      refine zg_ior X dX7_setAbsent_40 ?_
      refine zg_goto X dX7_setAbsent_41 (tgt := 54) (by decide) ?_
      refine zg_top (v' := (if b = 0 then σ.2.1 6 &&& (bt1 j0 ^^^ -1) else σ.2.1 6 ||| bt1 j0)) (by rw [if_neg c_30] <;> rfl) ?_
      refine rp_M_absent X f7 l119 dX7_setAbsent_54 ?_
      refine zg_iload_n X dX7_setAbsent_57 rfl ?_
      exact zg_nret X hr ((by first | exact hK.2.2.2 _ | rfl)) dX7_setAbsent_58 (Nat.le_of_ble_eq_true rfl) (Nat.le_of_ble_eq_true rfl) (⟨uN (uN (uA σ 19 (upd (σ.2.2 19) j0 b)) 6 (if b = 0 then σ.2.1 6 &&& (bt1 j0 ^^^ -1) else σ.2.1 6 ||| bt1 j0)) 8 0, mR_r (by rw [sp_setAbsent, if_pos p0, ix_nI k0] <;> rfl), rfl⟩)
  · skip
    refine zg_aload_n X dX7_setAbsent_13 rfl ?_
    refine zg_iconst X (v := 1) dX7_setAbsent_14 (by decide) ?_
    refine zg_callVi X (k_X7_isWrong l D ad T (uN σ 8 0) 1) zFr.rf gX7_setAbsent_X7_isWrong rfl rfl rfl qv_X7_isWrong rfl ⟨Nat.le_of_ble_eq_true rfl, Nat.le_of_ble_eq_true rfl⟩ (q0 := 0) (ci := 9) rfl rfl rfl (Nat.le_of_ble_eq_true rfl) ⟨Nat.le_of_ble_eq_true rfl, Nat.le_of_ble_eq_true rfl⟩ dX7_setAbsent_15 (fun r w1 hz9 => ?_)
    obtain ⟨rfl, rfl⟩ := hz9
    exact zg_nret X hr ((by first | exact hK.2.2.2 _ | rfl)) dX7_setAbsent_18 (Nat.le_of_ble_eq_true rfl) (Nat.le_of_ble_eq_true rfl) (⟨uN (uN σ 8 0) 8 1, mR_f 0 (by rw [sp_setAbsent, if_neg (show ¬ pIn x (σ.1 0) from c_10)]) rfl rfl, rfl⟩)

set_option maxHeartbeats 4000000 in
set_option maxRecDepth 100000 in
theorem k_X7_setSubstitute (l : Launch) (D : va_G) (ad : Nat → Nat) (T : Nat → ClassId) (σ : ZS) (hI : zI σ) (x y : Int32)  : zM l yX7_setSubstitute wsX7_setSubstitute ({ frames := 2, cells := 0, slots := 0, locals := 43 }) D (zT T) [.ref (ad 0), .int x, .int y] (wM ad T σ) 0 0 (qI D (zT T) (fun v0 w => ∃ t, mR [eNS, eIA] σ (sp_setSubstitute σ x y) v0 t ∧ w = wM ad T t)) := by
  have hB0 := hI.bd
  obtain ⟨b0, b1, b2, b3, b4, b5⟩ := hI.bd
  refine zg_of (cc := cX7_setSubstitute) (maxL := 4) (ret := (some .int)) (by decide) rfl (Nat.le_of_ble_eq_true rfl) (fun p e s m below meth c A hin hr X => ?_)
  have X : zC p s m _ meth c cX7_setSubstitute 4 wsX7_setSubstitute RX7 D (zT T) A := X
  have f7 : ∀ w ∈ u_ws RX7 TX7 37, w ∈ wsX7_setSubstitute := by decide +kernel
  have l16 : Cond.fieldLink RX7 16 "RecertifyModel" "substitutes" "[I" ∈ wsX7_setSubstitute := by decide +kernel
  have l85 : Cond.fieldLink RX7 85 "RecertifyModel" "thrown" "I" ∈ wsX7_setSubstitute := by decide +kernel
  refine zg_aload_n X dX7_setSubstitute_0 rfl ?_
  refine zg_iconst X (v := 0) dX7_setSubstitute_1 (by decide) ?_
  refine rp_M_thrown X f7 l85 dX7_setSubstitute_2 ?_
  refine zg_aload_n X dX7_setSubstitute_5 rfl ?_
  refine zg_iload_n X dX7_setSubstitute_6 rfl ?_
  refine zg_callVi X (k_X7_isPerson l D ad T (uN σ 8 0) hB0 _) zFr.rf gX7_setSubstitute_X7_isPerson rfl rfl rfl qv_X7_isPerson rfl ⟨Nat.le_of_ble_eq_true rfl, Nat.le_of_ble_eq_true rfl⟩ (q0 := 0) (ci := 9) rfl rfl rfl (Nat.le_of_ble_eq_true rfl) ⟨Nat.le_of_ble_eq_true rfl, Nat.le_of_ble_eq_true rfl⟩ dX7_setSubstitute_7 (fun r w1 hz9 => ?_)
  obtain ⟨rfl, rfl⟩ := hz9
  refine zg_if_eqb X dX7_setSubstitute_10 (tgt := 26) (by decide) (fun c_10 => ?_) (fun c_10 => ?_)
  · skip
    refine zg_aload_n X dX7_setSubstitute_26 rfl ?_
    refine zg_iconst X (v := 1) dX7_setSubstitute_27 (by decide) ?_
    refine zg_callVi X (k_X7_fails l D ad T (uN σ 8 0) 1) zFr.rf gX7_setSubstitute_X7_fails rfl rfl rfl qv_X7_fails rfl ⟨Nat.le_of_ble_eq_true rfl, Nat.le_of_ble_eq_true rfl⟩ (q0 := 0) (ci := 9) rfl rfl rfl (Nat.le_of_ble_eq_true rfl) ⟨Nat.le_of_ble_eq_true rfl, Nat.le_of_ble_eq_true rfl⟩ dX7_setSubstitute_28 (fun r w1 hz9 => ?_)
    obtain ⟨rfl, rfl⟩ := hz9
    exact zg_iret X hr dX7_setSubstitute_31 (Nat.le_of_ble_eq_true rfl) (Nat.le_of_ble_eq_true rfl) (⟨uN (uN σ 8 0) 8 1, mR_f 0 (by rw [sp_setSubstitute, if_neg (show ¬ (pIn x (σ.1 0) ∧ (y = -1 ∨ pIn y (σ.1 0))) from fun q => c_10 q.1)]) rfl rfl, rfl⟩)
  · skip
    have p0 : pIn x (σ.1 0) := c_10
    obtain ⟨j0, h0, e0⟩ := pIn_idx (by omega) p0
    subst e0
    have k0 : j0 < 2 ^ 31 := by omega
    refine zg_iload_n X dX7_setSubstitute_13 rfl ?_
    refine zg_iconst X (v := (-1)) dX7_setSubstitute_14 (by decide) ?_
    refine zg_icmp_eq X dX7_setSubstitute_15 (tgt := 32) (by decide) (fun c_15 => ?_) (fun c_15 => ?_)
    · skip
      have hs : y = -1 ∨ pIn y (σ.1 0) := by first | exact Or.inl c_15 | exact Or.inr c_23
      refine zg_iload_n X dX7_setSubstitute_32 rfl ?_
      refine zg_iload_n X dX7_setSubstitute_33 rfl ?_
      refine zg_icmp_ne X dX7_setSubstitute_34 (tgt := 43) (by decide) (fun c_34 => ?_) (fun c_34 => ?_)
      · skip
        refine zg_aload_n X dX7_setSubstitute_43 rfl ?_
        refine rg_M_substitutes X f7 l16 dX7_setSubstitute_44 ?_
        refine zg_iload_n X dX7_setSubstitute_47 rfl ?_
        refine rlM_substitutes X (by omega) dX7_setSubstitute_48 ?_
        refine zg_istore_n X dX7_setSubstitute_49 (by decide) ?_
        refine zg_aload_n X dX7_setSubstitute_50 rfl ?_
        refine rg_M_substitutes X f7 l16 dX7_setSubstitute_51 ?_
        refine zg_iload_n X dX7_setSubstitute_54 rfl ?_
        refine zg_iload_n X dX7_setSubstitute_55 rfl ?_
        refine rsM_substitutes X (by omega) dX7_setSubstitute_56 ?_
        refine zg_iload_n X dX7_setSubstitute_57 rfl ?_
        exact zg_iret X hr dX7_setSubstitute_58 (Nat.le_of_ble_eq_true rfl) (Nat.le_of_ble_eq_true rfl) (⟨uN (uA σ 2 (upd (σ.2.2 2) j0 y)) 8 0, mR_r (by rw [sp_setSubstitute, if_pos (And.intro p0 hs), if_neg c_34, ix_nI k0] <;> rfl), rfl⟩)
      · skip
        refine zg_aload_n X dX7_setSubstitute_37 rfl ?_
        refine zg_iconst X (v := 2) dX7_setSubstitute_38 (by decide) ?_
        refine zg_callVi X (k_X7_fails l D ad T (uN σ 8 0) 2) zFr.rf gX7_setSubstitute_X7_fails rfl rfl rfl qv_X7_fails rfl ⟨Nat.le_of_ble_eq_true rfl, Nat.le_of_ble_eq_true rfl⟩ (q0 := 0) (ci := 9) rfl rfl rfl (Nat.le_of_ble_eq_true rfl) ⟨Nat.le_of_ble_eq_true rfl, Nat.le_of_ble_eq_true rfl⟩ dX7_setSubstitute_39 (fun r w1 hz9 => ?_)
        obtain ⟨rfl, rfl⟩ := hz9
        exact zg_iret X hr dX7_setSubstitute_42 (Nat.le_of_ble_eq_true rfl) (Nat.le_of_ble_eq_true rfl) (⟨uN (uN σ 8 0) 8 2, mR_f 1 (by rw [sp_setSubstitute, if_pos (And.intro p0 hs), if_pos c_34]) rfl rfl, rfl⟩)
    · skip
      refine zg_aload_n X dX7_setSubstitute_18 rfl ?_
      refine zg_iload_n X dX7_setSubstitute_19 rfl ?_
      refine zg_callVi X (k_X7_isPerson l D ad T (uN σ 8 0) hB0 _) zFr.rf gX7_setSubstitute_X7_isPerson rfl rfl rfl qv_X7_isPerson rfl ⟨Nat.le_of_ble_eq_true rfl, Nat.le_of_ble_eq_true rfl⟩ (q0 := 0) (ci := 9) rfl rfl rfl (Nat.le_of_ble_eq_true rfl) ⟨Nat.le_of_ble_eq_true rfl, Nat.le_of_ble_eq_true rfl⟩ dX7_setSubstitute_20 (fun r w1 hz9 => ?_)
      obtain ⟨rfl, rfl⟩ := hz9
      refine zg_if_neb X dX7_setSubstitute_23 (tgt := 32) (by decide) (fun c_23 => ?_) (fun c_23 => ?_)
      · skip
        have hs : y = -1 ∨ pIn y (σ.1 0) := by first | exact Or.inl c_15 | exact Or.inr c_23
        refine zg_iload_n X dX7_setSubstitute_32 rfl ?_
        refine zg_iload_n X dX7_setSubstitute_33 rfl ?_
        refine zg_icmp_ne X dX7_setSubstitute_34 (tgt := 43) (by decide) (fun c_34 => ?_) (fun c_34 => ?_)
        · skip
          refine zg_aload_n X dX7_setSubstitute_43 rfl ?_
          refine rg_M_substitutes X f7 l16 dX7_setSubstitute_44 ?_
          refine zg_iload_n X dX7_setSubstitute_47 rfl ?_
          refine rlM_substitutes X (by omega) dX7_setSubstitute_48 ?_
          refine zg_istore_n X dX7_setSubstitute_49 (by decide) ?_
          refine zg_aload_n X dX7_setSubstitute_50 rfl ?_
          refine rg_M_substitutes X f7 l16 dX7_setSubstitute_51 ?_
          refine zg_iload_n X dX7_setSubstitute_54 rfl ?_
          refine zg_iload_n X dX7_setSubstitute_55 rfl ?_
          refine rsM_substitutes X (by omega) dX7_setSubstitute_56 ?_
          refine zg_iload_n X dX7_setSubstitute_57 rfl ?_
          exact zg_iret X hr dX7_setSubstitute_58 (Nat.le_of_ble_eq_true rfl) (Nat.le_of_ble_eq_true rfl) (⟨uN (uA σ 2 (upd (σ.2.2 2) j0 y)) 8 0, mR_r (by rw [sp_setSubstitute, if_pos (And.intro p0 hs), if_neg c_34, ix_nI k0] <;> rfl), rfl⟩)
        · skip
          refine zg_aload_n X dX7_setSubstitute_37 rfl ?_
          refine zg_iconst X (v := 2) dX7_setSubstitute_38 (by decide) ?_
          refine zg_callVi X (k_X7_fails l D ad T (uN σ 8 0) 2) zFr.rf gX7_setSubstitute_X7_fails rfl rfl rfl qv_X7_fails rfl ⟨Nat.le_of_ble_eq_true rfl, Nat.le_of_ble_eq_true rfl⟩ (q0 := 0) (ci := 9) rfl rfl rfl (Nat.le_of_ble_eq_true rfl) ⟨Nat.le_of_ble_eq_true rfl, Nat.le_of_ble_eq_true rfl⟩ dX7_setSubstitute_39 (fun r w1 hz9 => ?_)
          obtain ⟨rfl, rfl⟩ := hz9
          exact zg_iret X hr dX7_setSubstitute_42 (Nat.le_of_ble_eq_true rfl) (Nat.le_of_ble_eq_true rfl) (⟨uN (uN σ 8 0) 8 2, mR_f 1 (by rw [sp_setSubstitute, if_pos (And.intro p0 hs), if_pos c_34]) rfl rfl, rfl⟩)
      · skip
        refine zg_aload_n X dX7_setSubstitute_26 rfl ?_
        refine zg_iconst X (v := 1) dX7_setSubstitute_27 (by decide) ?_
        refine zg_callVi X (k_X7_fails l D ad T (uN σ 8 0) 1) zFr.rf gX7_setSubstitute_X7_fails rfl rfl rfl qv_X7_fails rfl ⟨Nat.le_of_ble_eq_true rfl, Nat.le_of_ble_eq_true rfl⟩ (q0 := 0) (ci := 9) rfl rfl rfl (Nat.le_of_ble_eq_true rfl) ⟨Nat.le_of_ble_eq_true rfl, Nat.le_of_ble_eq_true rfl⟩ dX7_setSubstitute_28 (fun r w1 hz9 => ?_)
        obtain ⟨rfl, rfl⟩ := hz9
        exact zg_iret X hr dX7_setSubstitute_31 (Nat.le_of_ble_eq_true rfl) (Nat.le_of_ble_eq_true rfl) (⟨uN (uN σ 8 0) 8 1, mR_f 0 (by rw [sp_setSubstitute, if_neg (show ¬ (pIn (nI j0) (σ.1 0) ∧ (y = -1 ∨ pIn y (σ.1 0))) from fun q => q.2.elim c_15 c_23)]) rfl rfl, rfl⟩)

set_option maxHeartbeats 4000000 in
set_option maxRecDepth 100000 in
theorem k_X7_addGroup (l : Launch) (D : va_G) (ad : Nat → Nat) (T : Nat → ClassId) (σ : ZS) (hI : zI σ) (x : Int32)  : zM l yX7_addGroup wsX7_addGroup ({ frames := 2, cells := 0, slots := 0, locals := 43 }) D (zT T) [.ref (ad 0), .int x] (wM ad T σ) 0 0 (qI D (zT T) (fun v0 w => ∃ t, mR [eNS, eIS] σ (sp_addGroup σ x) v0 t ∧ w = wM ad T t)) := by
  have hB0 := hI.bd
  obtain ⟨b0, b1, b2, b3, b4, b5⟩ := hI.bd
  refine zg_of (cc := cX7_addGroup) (maxL := 2) (ret := (some .int)) (by decide) rfl (Nat.le_of_ble_eq_true rfl) (fun p e s m below meth c A hin hr X => ?_)
  have X : zC p s m _ meth c cX7_addGroup 2 wsX7_addGroup RX7 D (zT T) A := X
  have f7 : ∀ w ∈ u_ws RX7 TX7 37, w ∈ wsX7_addGroup := by decide +kernel
  have l19 : Cond.fieldLink RX7 19 "RecertifyModel" "groupOwners" "[I" ∈ wsX7_addGroup := by decide +kernel
  have l85 : Cond.fieldLink RX7 85 "RecertifyModel" "thrown" "I" ∈ wsX7_addGroup := by decide +kernel
  have l99 : Cond.fieldLink RX7 99 "RecertifyModel" "groups" "I" ∈ wsX7_addGroup := by decide +kernel
  refine zg_aload_n X dX7_addGroup_0 rfl ?_
  refine zg_iconst X (v := 0) dX7_addGroup_1 (by decide) ?_
  refine rp_M_thrown X f7 l85 dX7_addGroup_2 ?_
  refine zg_aload_n X dX7_addGroup_5 rfl ?_
  refine zg_iload_n X dX7_addGroup_6 rfl ?_
  refine zg_callVi X (k_X7_isPerson l D ad T (uN σ 8 0) hB0 _) zFr.rf gX7_addGroup_X7_isPerson rfl rfl rfl qv_X7_isPerson rfl ⟨Nat.le_of_ble_eq_true rfl, Nat.le_of_ble_eq_true rfl⟩ (q0 := 0) (ci := 9) rfl rfl rfl (Nat.le_of_ble_eq_true rfl) ⟨Nat.le_of_ble_eq_true rfl, Nat.le_of_ble_eq_true rfl⟩ dX7_addGroup_7 (fun r w1 hz9 => ?_)
  obtain ⟨rfl, rfl⟩ := hz9
  refine zg_if_neb X dX7_addGroup_10 (tgt := 19) (by decide) (fun c_10 => ?_) (fun c_10 => ?_)
  · skip
    have p0 : pIn x (σ.1 0) := c_10
    obtain ⟨j0, h0, e0⟩ := pIn_idx (by omega) p0
    subst e0
    have k0 : j0 < 2 ^ 31 := by omega
    refine zg_aload_n X dX7_addGroup_19 rfl ?_
    refine rg_M_groups X f7 l99 dX7_addGroup_20 ?_
    refine zg_bipush X (v := 8) dX7_addGroup_23 (by decide) ?_
    refine zg_icmpn_ne X dX7_addGroup_25 (tgt := 34) (by decide) (a := σ.1 1) (b := 8) (by omega) (by omega) (fun c_25 => ?_) (fun c_25 => ?_)
    · skip
      refine zg_aload_n X dX7_addGroup_34 rfl ?_
      refine rg_M_groupOwners X f7 l19 dX7_addGroup_35 ?_
      refine zg_aload_n X dX7_addGroup_38 rfl ?_
      refine rg_M_groups X f7 l99 dX7_addGroup_39 ?_
      refine zg_iload_n X dX7_addGroup_42 rfl ?_
      refine rsM_gOwners X (show σ.1 1 < 8 by omega) dX7_addGroup_43 ?_
      refine zg_aload_n X dX7_addGroup_44 rfl ?_
      refine zg_dup X dX7_addGroup_45 rfl ?_
      refine rg_M_groups X f7 l99 dX7_addGroup_46 ?_
      refine zg_iconst X (v := 1) dX7_addGroup_49 (by decide) ?_
      refine zg_iadd X dX7_addGroup_50 ?_
      refine zg_top (nI_1 _) ?_
      refine rp_M_groups X f7 l99 dX7_addGroup_51 ?_
      refine zg_aload_n X dX7_addGroup_54 rfl ?_
      refine rg_M_groups X f7 l99 dX7_addGroup_55 ?_
      refine zg_iconst X (v := 1) dX7_addGroup_58 (by decide) ?_
      refine zg_isub X dX7_addGroup_59 ?_
      refine zg_top (zsub1 (show 0 < σ.1 1 + 1 by omega)) ?_
      exact zg_iret X hr dX7_addGroup_60 (Nat.le_of_ble_eq_true rfl) (Nat.le_of_ble_eq_true rfl) (⟨uN (uC (uA σ 3 (upd (σ.2.2 3) (σ.1 1) (nI j0))) 1 (σ.1 1 + 1)) 8 0, mR_r (by rw [sp_addGroup, if_pos p0, if_neg (show ¬ σ.1 1 = 8 by omega)] <;> rfl), rfl⟩)
    · skip
      refine zg_aload_n X dX7_addGroup_28 rfl ?_
      refine zg_iconst X (v := 2) dX7_addGroup_29 (by decide) ?_
      refine zg_callVi X (k_X7_fails l D ad T (uN σ 8 0) 2) zFr.rf gX7_addGroup_X7_fails rfl rfl rfl qv_X7_fails rfl ⟨Nat.le_of_ble_eq_true rfl, Nat.le_of_ble_eq_true rfl⟩ (q0 := 0) (ci := 9) rfl rfl rfl (Nat.le_of_ble_eq_true rfl) ⟨Nat.le_of_ble_eq_true rfl, Nat.le_of_ble_eq_true rfl⟩ dX7_addGroup_30 (fun r w1 hz9 => ?_)
      obtain ⟨rfl, rfl⟩ := hz9
      exact zg_iret X hr dX7_addGroup_33 (Nat.le_of_ble_eq_true rfl) (Nat.le_of_ble_eq_true rfl) (⟨uN (uN σ 8 0) 8 2, mR_f 1 (by rw [sp_addGroup, if_pos p0, if_pos (show σ.1 1 = 8 by omega)]) rfl rfl, rfl⟩)
  · skip
    refine zg_aload_n X dX7_addGroup_13 rfl ?_
    refine zg_iconst X (v := 1) dX7_addGroup_14 (by decide) ?_
    refine zg_callVi X (k_X7_fails l D ad T (uN σ 8 0) 1) zFr.rf gX7_addGroup_X7_fails rfl rfl rfl qv_X7_fails rfl ⟨Nat.le_of_ble_eq_true rfl, Nat.le_of_ble_eq_true rfl⟩ (q0 := 0) (ci := 9) rfl rfl rfl (Nat.le_of_ble_eq_true rfl) ⟨Nat.le_of_ble_eq_true rfl, Nat.le_of_ble_eq_true rfl⟩ dX7_addGroup_15 (fun r w1 hz9 => ?_)
    obtain ⟨rfl, rfl⟩ := hz9
    exact zg_iret X hr dX7_addGroup_18 (Nat.le_of_ble_eq_true rfl) (Nat.le_of_ble_eq_true rfl) (⟨uN (uN σ 8 0) 8 1, mR_f 0 (by rw [sp_addGroup, if_neg (show ¬ pIn x (σ.1 0) from c_10)]) rfl rfl, rfl⟩)

set_option maxHeartbeats 4000000 in
set_option maxRecDepth 100000 in
theorem k_X7_addMember (l : Launch) (D : va_G) (ad : Nat → Nat) (T : Nat → ClassId) (σ : ZS) (hI : zI σ) (x y : Int32)  : zM l yX7_addMember wsX7_addMember ({ frames := 3, cells := 0, slots := 0, locals := 65 }) D (zT T) [.ref (ad 0), .int x, .int y] (wM ad T σ) 0 0 (qI D (zT T) (fun v0 w => ∃ t, mR [eNS, eIS] σ (sp_addMember σ x y) v0 t ∧ w = wM ad T t)) := by
  have hB0 := hI.bd
  obtain ⟨b0, b1, b2, b3, b4, b5⟩ := hI.bd
  refine zg_of (cc := cX7_addMember) (maxL := 3) (ret := (some .int)) (by decide) rfl (Nat.le_of_ble_eq_true rfl) (fun p e s m below meth c A hin hr X => ?_)
  have X : zC p s m _ meth c cX7_addMember 3 wsX7_addMember RX7 D (zT T) A := X
  have f7 : ∀ w ∈ u_ws RX7 TX7 37, w ∈ wsX7_addMember := by decide +kernel
  have l22 : Cond.fieldLink RX7 22 "RecertifyModel" "direct" "[I" ∈ wsX7_addMember := by decide +kernel
  refine zg_aload_n X dX7_addMember_0 rfl ?_
  refine zg_iload_n X dX7_addMember_1 rfl ?_
  refine zg_iload_n X dX7_addMember_2 rfl ?_
  refine zg_callVi X (k_X7_isNotThere l D ad T σ hB0 _ _) zFr.rf gX7_addMember_X7_isNotThere rfl rfl rfl qv_X7_isNotThere rfl ⟨Nat.le_of_ble_eq_true rfl, Nat.le_of_ble_eq_true rfl⟩ (q0 := 0) (ci := 9) rfl rfl rfl (Nat.le_of_ble_eq_true rfl) ⟨Nat.le_of_ble_eq_true rfl, Nat.le_of_ble_eq_true rfl⟩ dX7_addMember_3 (fun r w1 hz9 => ?_)
  obtain ⟨rfl, rfl⟩ := hz9
  refine zg_if_eqb X dX7_addMember_6 (tgt := 11) (by decide) (fun c_6 => ?_) (fun c_6 => ?_)
  · skip
    have pA : pIn x (σ.1 1) ∧ pIn y (σ.1 0) := Classical.not_not.mp c_6
    refine zg_w (w' := wM ad T (uN σ 8 0)) (by rw [if_pos pA]) ?_
    obtain ⟨p0, p1⟩ := pA
    obtain ⟨j0, h0, e0⟩ := pIn_idx (by omega) p0
    subst e0
    have k0 : j0 < 2 ^ 31 := by omega
    obtain ⟨j1, h1, e1⟩ := pIn_idx (by omega) p1
    subst e1
    have k1 : j1 < 2 ^ 31 := by omega
    refine zg_aload_n X dX7_addMember_11 rfl ?_
    refine rg_M_direct X f7 l22 dX7_addMember_12 ?_
    refine zg_iload_n X dX7_addMember_15 rfl ?_
    refine rlM_direct X (by omega) dX7_addMember_16 ?_
    refine zg_iload_n X dX7_addMember_17 rfl ?_
    refine zg_callSi X (k_X7_has l D ad T (uN σ 8 0) _ j1 (by omega)) zFr.rf gX7_addMember_X7_has rfl rfl rfl qd_X7_has rfl ⟨Nat.le_of_ble_eq_true rfl, Nat.le_of_ble_eq_true rfl⟩ rfl (Nat.le_of_ble_eq_true rfl) ⟨Nat.le_of_ble_eq_true rfl, Nat.le_of_ble_eq_true rfl⟩ dX7_addMember_18 (fun r w1 hz9 => ?_)
    obtain ⟨rfl, rfl⟩ := hz9
    refine zg_if_eqb X dX7_addMember_21 (tgt := 30) (by decide) (fun c_21 => ?_) (fun c_21 => ?_)
    · skip
      refine zg_aload_n X dX7_addMember_30 rfl ?_
      refine rg_M_direct X f7 l22 dX7_addMember_31 ?_
      refine zg_iload_n X dX7_addMember_34 rfl ?_
      refine zg_dup2 X dX7_addMember_35 rfl rfl ?_
      refine rlM_direct X (by omega) dX7_addMember_36 ?_
      refine zg_iconst X (v := 1) dX7_addMember_37 (by decide) ?_
      refine zg_iload_n X dX7_addMember_38 rfl ?_
      refine zg_ishl X dX7_addMember_39 ?_
      refine zg_ior X dX7_addMember_40 ?_
      refine rsM_direct X (by omega) dX7_addMember_41 ?_
      refine zg_aload_n X dX7_addMember_42 rfl ?_
      refine rg_M_direct X f7 l22 dX7_addMember_43 ?_
      refine zg_iload_n X dX7_addMember_46 rfl ?_
      refine rlM_direct X (by omega) dX7_addMember_47 ?_
      refine zg_top (show _ = (σ.2.2 4 j0 ||| bt1 j1) from upd_e) ?_
      refine zg_callSi X (k_X7_size l D ad T _ _) zFr.rf gX7_addMember_X7_size rfl rfl rfl qd_X7_size rfl ⟨Nat.le_of_ble_eq_true rfl, Nat.le_of_ble_eq_true rfl⟩ rfl (Nat.le_of_ble_eq_true rfl) ⟨Nat.le_of_ble_eq_true rfl, Nat.le_of_ble_eq_true rfl⟩ dX7_addMember_48 (fun r w1 hz9 => ?_)
      obtain ⟨rfl, rfl⟩ := hz9
      exact zg_iret X hr dX7_addMember_51 (Nat.le_of_ble_eq_true rfl) (Nat.le_of_ble_eq_true rfl) (⟨uN (reAll (uA σ 4 (upd (σ.2.2 4) j0 (σ.2.2 4 j0 ||| bt1 j1)))) 8 0, mR_r (by rw [sp_addMember, if_pos (And.intro p0 p1), ix_nI k0, ix_nI k1, if_neg (show ¬ hB (σ.2.2 4 j0) j1 from c_21), bcnt_sm (zSm_or (hI.dir j0 (by omega)) (zSm_bt1 (by omega) (by decide)))] <;> rfl), rfl⟩)
    · skip
      refine zg_aload_n X dX7_addMember_24 rfl ?_
      refine zg_iconst X (v := 2) dX7_addMember_25 (by decide) ?_
      refine zg_callVi X (k_X7_fails l D ad T (uN σ 8 0) 2) zFr.rf gX7_addMember_X7_fails rfl rfl rfl qv_X7_fails rfl ⟨Nat.le_of_ble_eq_true rfl, Nat.le_of_ble_eq_true rfl⟩ (q0 := 0) (ci := 9) rfl rfl rfl (Nat.le_of_ble_eq_true rfl) ⟨Nat.le_of_ble_eq_true rfl, Nat.le_of_ble_eq_true rfl⟩ dX7_addMember_26 (fun r w1 hz9 => ?_)
      obtain ⟨rfl, rfl⟩ := hz9
      exact zg_iret X hr dX7_addMember_29 (Nat.le_of_ble_eq_true rfl) (Nat.le_of_ble_eq_true rfl) (⟨uN (uN σ 8 0) 8 2, mR_f 1 (by rw [sp_addMember, if_pos (And.intro p0 p1), ix_nI k0, ix_nI k1, if_pos (show hB (σ.2.2 4 j0) j1 from c_21)]) rfl rfl, rfl⟩)
  · skip
    refine zg_w (w' := wM ad T (uN σ 8 1)) (by rw [if_neg c_6]) ?_
    refine zg_iconst X (v := 0) dX7_addMember_9 (by decide) ?_
    exact zg_iret X hr dX7_addMember_10 (Nat.le_of_ble_eq_true rfl) (Nat.le_of_ble_eq_true rfl) (⟨uN σ 8 1, mR_f1 0 (by rw [sp_addMember, if_neg c_6]) rfl rfl, rfl⟩)

set_option maxHeartbeats 4000000 in
set_option maxRecDepth 100000 in
theorem k_X7_removeMember (l : Launch) (D : va_G) (ad : Nat → Nat) (T : Nat → ClassId) (σ : ZS) (hI : zI σ) (x y : Int32)  : zM l yX7_removeMember wsX7_removeMember ({ frames := 3, cells := 0, slots := 0, locals := 65 }) D (zT T) [.ref (ad 0), .int x, .int y] (wM ad T σ) 0 0 (qI D (zT T) (fun v0 w => ∃ t, mR [eNS, eIS] σ (sp_removeMember σ x y) v0 t ∧ w = wM ad T t)) := by
  have hB0 := hI.bd
  obtain ⟨b0, b1, b2, b3, b4, b5⟩ := hI.bd
  refine zg_of (cc := cX7_removeMember) (maxL := 3) (ret := (some .int)) (by decide) rfl (Nat.le_of_ble_eq_true rfl) (fun p e s m below meth c A hin hr X => ?_)
  have X : zC p s m _ meth c cX7_removeMember 3 wsX7_removeMember RX7 D (zT T) A := X
  have f7 : ∀ w ∈ u_ws RX7 TX7 37, w ∈ wsX7_removeMember := by decide +kernel
  have l22 : Cond.fieldLink RX7 22 "RecertifyModel" "direct" "[I" ∈ wsX7_removeMember := by decide +kernel
  refine zg_aload_n X dX7_removeMember_0 rfl ?_
  refine zg_iload_n X dX7_removeMember_1 rfl ?_
  refine zg_iload_n X dX7_removeMember_2 rfl ?_
  refine zg_callVi X (k_X7_isNotThere l D ad T σ hB0 _ _) zFr.rf gX7_removeMember_X7_isNotThere rfl rfl rfl qv_X7_isNotThere rfl ⟨Nat.le_of_ble_eq_true rfl, Nat.le_of_ble_eq_true rfl⟩ (q0 := 0) (ci := 9) rfl rfl rfl (Nat.le_of_ble_eq_true rfl) ⟨Nat.le_of_ble_eq_true rfl, Nat.le_of_ble_eq_true rfl⟩ dX7_removeMember_3 (fun r w1 hz9 => ?_)
  obtain ⟨rfl, rfl⟩ := hz9
  refine zg_if_eqb X dX7_removeMember_6 (tgt := 11) (by decide) (fun c_6 => ?_) (fun c_6 => ?_)
  · skip
    have pA : pIn x (σ.1 1) ∧ pIn y (σ.1 0) := Classical.not_not.mp c_6
    refine zg_w (w' := wM ad T (uN σ 8 0)) (by rw [if_pos pA]) ?_
    obtain ⟨p0, p1⟩ := pA
    obtain ⟨j0, h0, e0⟩ := pIn_idx (by omega) p0
    subst e0
    have k0 : j0 < 2 ^ 31 := by omega
    obtain ⟨j1, h1, e1⟩ := pIn_idx (by omega) p1
    subst e1
    have k1 : j1 < 2 ^ 31 := by omega
    refine zg_aload_n X dX7_removeMember_11 rfl ?_
    refine rg_M_direct X f7 l22 dX7_removeMember_12 ?_
    refine zg_iload_n X dX7_removeMember_15 rfl ?_
    refine rlM_direct X (by omega) dX7_removeMember_16 ?_
    refine zg_iload_n X dX7_removeMember_17 rfl ?_
    refine zg_callSi X (k_X7_has l D ad T (uN σ 8 0) _ j1 (by omega)) zFr.rf gX7_removeMember_X7_has rfl rfl rfl qd_X7_has rfl ⟨Nat.le_of_ble_eq_true rfl, Nat.le_of_ble_eq_true rfl⟩ rfl (Nat.le_of_ble_eq_true rfl) ⟨Nat.le_of_ble_eq_true rfl, Nat.le_of_ble_eq_true rfl⟩ dX7_removeMember_18 (fun r w1 hz9 => ?_)
    obtain ⟨rfl, rfl⟩ := hz9
    refine zg_if_neb X dX7_removeMember_21 (tgt := 30) (by decide) (fun c_21 => ?_) (fun c_21 => ?_)
    · skip
      refine zg_aload_n X dX7_removeMember_30 rfl ?_
      refine rg_M_direct X f7 l22 dX7_removeMember_31 ?_
      refine zg_iload_n X dX7_removeMember_34 rfl ?_
      refine zg_dup2 X dX7_removeMember_35 rfl rfl ?_
      refine rlM_direct X (by omega) dX7_removeMember_36 ?_
      refine zg_iconst X (v := 1) dX7_removeMember_37 (by decide) ?_
      refine zg_iload_n X dX7_removeMember_38 rfl ?_
      refine zg_ishl X dX7_removeMember_39 ?_
      refine zg_iconst X (v := (-1)) dX7_removeMember_40 (by decide) ?_
      refine zg_ixor X dX7_removeMember_41 ?_
      refine zg_iand X dX7_removeMember_42 ?_
      refine rsM_direct X (by omega) dX7_removeMember_43 ?_
      refine zg_aload_n X dX7_removeMember_44 rfl ?_
      refine rg_M_direct X f7 l22 dX7_removeMember_45 ?_
      refine zg_iload_n X dX7_removeMember_48 rfl ?_
      refine rlM_direct X (by omega) dX7_removeMember_49 ?_
      refine zg_top (show _ = (σ.2.2 4 j0 &&& (bt1 j1 ^^^ -1)) from upd_e) ?_
      refine zg_callSi X (k_X7_size l D ad T _ _) zFr.rf gX7_removeMember_X7_size rfl rfl rfl qd_X7_size rfl ⟨Nat.le_of_ble_eq_true rfl, Nat.le_of_ble_eq_true rfl⟩ rfl (Nat.le_of_ble_eq_true rfl) ⟨Nat.le_of_ble_eq_true rfl, Nat.le_of_ble_eq_true rfl⟩ dX7_removeMember_50 (fun r w1 hz9 => ?_)
      obtain ⟨rfl, rfl⟩ := hz9
      exact zg_iret X hr dX7_removeMember_53 (Nat.le_of_ble_eq_true rfl) (Nat.le_of_ble_eq_true rfl) (⟨uN (reAll (uA σ 4 (upd (σ.2.2 4) j0 (σ.2.2 4 j0 &&& (bt1 j1 ^^^ -1))))) 8 0, mR_r (by rw [sp_removeMember, if_pos (And.intro p0 p1), ix_nI k0, ix_nI k1, if_pos (show hB (σ.2.2 4 j0) j1 from c_21), bcnt_sm (zSm_and (hI.dir j0 (by omega)))] <;> rfl), rfl⟩)
    · skip
      refine zg_aload_n X dX7_removeMember_24 rfl ?_
      refine zg_iconst X (v := 2) dX7_removeMember_25 (by decide) ?_
      refine zg_callVi X (k_X7_fails l D ad T (uN σ 8 0) 2) zFr.rf gX7_removeMember_X7_fails rfl rfl rfl qv_X7_fails rfl ⟨Nat.le_of_ble_eq_true rfl, Nat.le_of_ble_eq_true rfl⟩ (q0 := 0) (ci := 9) rfl rfl rfl (Nat.le_of_ble_eq_true rfl) ⟨Nat.le_of_ble_eq_true rfl, Nat.le_of_ble_eq_true rfl⟩ dX7_removeMember_26 (fun r w1 hz9 => ?_)
      obtain ⟨rfl, rfl⟩ := hz9
      exact zg_iret X hr dX7_removeMember_29 (Nat.le_of_ble_eq_true rfl) (Nat.le_of_ble_eq_true rfl) (⟨uN (uN σ 8 0) 8 2, mR_f 1 (by rw [sp_removeMember, if_pos (And.intro p0 p1), ix_nI k0, ix_nI k1, if_neg (show ¬ hB (σ.2.2 4 j0) j1 from c_21)]) rfl rfl, rfl⟩)
  · skip
    refine zg_w (w' := wM ad T (uN σ 8 1)) (by rw [if_neg c_6]) ?_
    refine zg_iconst X (v := 0) dX7_removeMember_9 (by decide) ?_
    exact zg_iret X hr dX7_removeMember_10 (Nat.le_of_ble_eq_true rfl) (Nat.le_of_ble_eq_true rfl) (⟨uN σ 8 1, mR_f1 0 (by rw [sp_removeMember, if_neg c_6]) rfl rfl, rfl⟩)

set_option maxHeartbeats 4000000 in
set_option maxRecDepth 100000 in
theorem k_X7_nest (l : Launch) (D : va_G) (ad : Nat → Nat) (T : Nat → ClassId) (σ : ZS) (hI : zI σ) (x y : Int32)  : zM l yX7_nest wsX7_nest ({ frames := 2, cells := 0, slots := 0, locals := 45 }) D (zT T) [.ref (ad 0), .int x, .int y] (wM ad T σ) 0 0 (qI D (zT T) (fun v0 w => ∃ t, mR [eNS, eUO, eIS] σ (sp_nest σ x y) v0 t ∧ w = wM ad T t)) := by
  have hB0 := hI.bd
  obtain ⟨b0, b1, b2, b3, b4, b5⟩ := hI.bd
  refine zg_of (cc := cX7_nest) (maxL := 3) (ret := (some .int)) (by decide) rfl (Nat.le_of_ble_eq_true rfl) (fun p e s m below meth c A hin hr X => ?_)
  have X : zC p s m _ meth c cX7_nest 3 wsX7_nest RX7 D (zT T) A := X
  have f7 : ∀ w ∈ u_ws RX7 TX7 37, w ∈ wsX7_nest := by decide +kernel
  have l25 : Cond.fieldLink RX7 25 "RecertifyModel" "nested" "[I" ∈ wsX7_nest := by decide +kernel
  have l85 : Cond.fieldLink RX7 85 "RecertifyModel" "thrown" "I" ∈ wsX7_nest := by decide +kernel
  refine zg_aload_n X dX7_nest_0 rfl ?_
  refine zg_iconst X (v := 0) dX7_nest_1 (by decide) ?_
  refine rp_M_thrown X f7 l85 dX7_nest_2 ?_
  refine zg_aload_n X dX7_nest_5 rfl ?_
  refine zg_iload_n X dX7_nest_6 rfl ?_
  refine zg_callVi X (k_X7_isGroup l D ad T (uN σ 8 0) hB0 _) zFr.rf gX7_nest_X7_isGroup rfl rfl rfl qv_X7_isGroup rfl ⟨Nat.le_of_ble_eq_true rfl, Nat.le_of_ble_eq_true rfl⟩ (q0 := 0) (ci := 9) rfl rfl rfl (Nat.le_of_ble_eq_true rfl) ⟨Nat.le_of_ble_eq_true rfl, Nat.le_of_ble_eq_true rfl⟩ dX7_nest_7 (fun r w1 hz9 => ?_)
  obtain ⟨rfl, rfl⟩ := hz9
  refine zg_if_eqb X dX7_nest_10 (tgt := 21) (by decide) (fun c_10 => ?_) (fun c_10 => ?_)
  · skip
    refine zg_aload_n X dX7_nest_21 rfl ?_
    refine zg_iconst X (v := 1) dX7_nest_22 (by decide) ?_
    refine zg_callVi X (k_X7_fails l D ad T (uN σ 8 0) 1) zFr.rf gX7_nest_X7_fails rfl rfl rfl qv_X7_fails rfl ⟨Nat.le_of_ble_eq_true rfl, Nat.le_of_ble_eq_true rfl⟩ (q0 := 0) (ci := 9) rfl rfl rfl (Nat.le_of_ble_eq_true rfl) ⟨Nat.le_of_ble_eq_true rfl, Nat.le_of_ble_eq_true rfl⟩ dX7_nest_23 (fun r w1 hz9 => ?_)
    obtain ⟨rfl, rfl⟩ := hz9
    exact zg_iret X hr dX7_nest_26 (Nat.le_of_ble_eq_true rfl) (Nat.le_of_ble_eq_true rfl) (⟨uN (uN σ 8 0) 8 1, mR_f 0 (by rw [sp_nest, if_neg (fun q => c_10 q.1)]) rfl rfl, rfl⟩)
  · skip
    have p0 : pIn x (σ.1 1) := c_10
    obtain ⟨j0, h0, e0⟩ := pIn_idx (by omega) p0
    subst e0
    have k0 : j0 < 2 ^ 31 := by omega
    refine zg_aload_n X dX7_nest_13 rfl ?_
    refine zg_iload_n X dX7_nest_14 rfl ?_
    refine zg_callVi X (k_X7_isGroup l D ad T (uN σ 8 0) hB0 _) zFr.rf gX7_nest_X7_isGroup rfl rfl rfl qv_X7_isGroup rfl ⟨Nat.le_of_ble_eq_true rfl, Nat.le_of_ble_eq_true rfl⟩ (q0 := 0) (ci := 9) rfl rfl rfl (Nat.le_of_ble_eq_true rfl) ⟨Nat.le_of_ble_eq_true rfl, Nat.le_of_ble_eq_true rfl⟩ dX7_nest_15 (fun r w1 hz9 => ?_)
    obtain ⟨rfl, rfl⟩ := hz9
    refine zg_if_neb X dX7_nest_18 (tgt := 27) (by decide) (fun c_18 => ?_) (fun c_18 => ?_)
    · skip
      have p1 : pIn y (σ.1 1) := c_18
      obtain ⟨j1, h1, e1⟩ := pIn_idx (by omega) p1
      subst e1
      have k1 : j1 < 2 ^ 31 := by omega
      refine zg_aload_n X dX7_nest_27 rfl ?_
      refine zg_iload_n X dX7_nest_28 rfl ?_
      refine zg_callVi X (k_X7_inside l D ad T (uN σ 8 0) hB0 j1) zFr.rf gX7_nest_X7_inside rfl rfl rfl qv_X7_inside rfl ⟨Nat.le_of_ble_eq_true rfl, Nat.le_of_ble_eq_true rfl⟩ (q0 := 0) (ci := 9) rfl rfl rfl (Nat.le_of_ble_eq_true rfl) ⟨Nat.le_of_ble_eq_true rfl, Nat.le_of_ble_eq_true rfl⟩ dX7_nest_29 (fun r w1 hz9 => ?_)
      obtain ⟨rfl, rfl⟩ := hz9
      refine zg_top (show _ = belowI σ j1 from insI_eq hI h1) ?_
      refine zg_iload_n X dX7_nest_32 rfl ?_
      refine zg_callSi X (k_X7_has l D ad T (uN σ 8 0) _ j0 (by omega)) zFr.rf gX7_nest_X7_has rfl rfl rfl qd_X7_has rfl ⟨Nat.le_of_ble_eq_true rfl, Nat.le_of_ble_eq_true rfl⟩ rfl (Nat.le_of_ble_eq_true rfl) ⟨Nat.le_of_ble_eq_true rfl, Nat.le_of_ble_eq_true rfl⟩ dX7_nest_33 (fun r w1 hz9 => ?_)
      obtain ⟨rfl, rfl⟩ := hz9
      refine zg_if_eqb X dX7_nest_36 (tgt := 45) (by decide) (fun c_36 => ?_) (fun c_36 => ?_)
      · skip
        refine zg_aload_n X dX7_nest_45 rfl ?_
        refine rg_M_nested X f7 l25 dX7_nest_46 ?_
        refine zg_iload_n X dX7_nest_49 rfl ?_
        refine rlM_nested X (by omega) dX7_nest_50 ?_
        refine zg_iload_n X dX7_nest_51 rfl ?_
        refine zg_callSi X (k_X7_has l D ad T (uN σ 8 0) _ j1 (by omega)) zFr.rf gX7_nest_X7_has rfl rfl rfl qd_X7_has rfl ⟨Nat.le_of_ble_eq_true rfl, Nat.le_of_ble_eq_true rfl⟩ rfl (Nat.le_of_ble_eq_true rfl) ⟨Nat.le_of_ble_eq_true rfl, Nat.le_of_ble_eq_true rfl⟩ dX7_nest_52 (fun r w1 hz9 => ?_)
        obtain ⟨rfl, rfl⟩ := hz9
        refine zg_if_eqb X dX7_nest_55 (tgt := 64) (by decide) (fun c_55 => ?_) (fun c_55 => ?_)
        · skip
          refine zg_aload_n X dX7_nest_64 rfl ?_
          refine rg_M_nested X f7 l25 dX7_nest_65 ?_
          refine zg_iload_n X dX7_nest_68 rfl ?_
          refine zg_dup2 X dX7_nest_69 rfl rfl ?_
          refine rlM_nested X (by omega) dX7_nest_70 ?_
          refine zg_iconst X (v := 1) dX7_nest_71 (by decide) ?_
          refine zg_iload_n X dX7_nest_72 rfl ?_
          refine zg_ishl X dX7_nest_73 ?_
          refine zg_ior X dX7_nest_74 ?_
          refine rsM_nested X (by omega) dX7_nest_75 ?_
          refine zg_aload_n X dX7_nest_76 rfl ?_
          refine rg_M_nested X f7 l25 dX7_nest_77 ?_
          refine zg_iload_n X dX7_nest_80 rfl ?_
          refine rlM_nested X (by omega) dX7_nest_81 ?_
          refine zg_top (show _ = (σ.2.2 5 j0 ||| bt1 j1) from upd_e) ?_
          refine zg_callSi X (k_X7_size l D ad T _ _) zFr.rf gX7_nest_X7_size rfl rfl rfl qd_X7_size rfl ⟨Nat.le_of_ble_eq_true rfl, Nat.le_of_ble_eq_true rfl⟩ rfl (Nat.le_of_ble_eq_true rfl) ⟨Nat.le_of_ble_eq_true rfl, Nat.le_of_ble_eq_true rfl⟩ dX7_nest_82 (fun r w1 hz9 => ?_)
          obtain ⟨rfl, rfl⟩ := hz9
          exact zg_iret X hr dX7_nest_85 (Nat.le_of_ble_eq_true rfl) (Nat.le_of_ble_eq_true rfl) (⟨uN (reAll (uA σ 5 (upd (σ.2.2 5) j0 (σ.2.2 5 j0 ||| bt1 j1)))) 8 0, mR_r (by rw [sp_nest, if_pos (And.intro p0 p1), ix_nI k0, ix_nI k1, if_neg (show ¬ hB (belowI σ j1) j0 from c_36), if_neg (show ¬ hB (σ.2.2 5 j0) j1 from c_55), bcnt_sm (zSm_or (zSm_mono (hI.nst j0 (by omega)) (by omega)) (zSm_bt1 (by omega) (by decide)))] <;> rfl), rfl⟩)
        · skip
          refine zg_aload_n X dX7_nest_58 rfl ?_
          refine zg_iconst X (v := 3) dX7_nest_59 (by decide) ?_
          refine zg_callVi X (k_X7_fails l D ad T (uN σ 8 0) 3) zFr.rf gX7_nest_X7_fails rfl rfl rfl qv_X7_fails rfl ⟨Nat.le_of_ble_eq_true rfl, Nat.le_of_ble_eq_true rfl⟩ (q0 := 0) (ci := 9) rfl rfl rfl (Nat.le_of_ble_eq_true rfl) ⟨Nat.le_of_ble_eq_true rfl, Nat.le_of_ble_eq_true rfl⟩ dX7_nest_60 (fun r w1 hz9 => ?_)
          obtain ⟨rfl, rfl⟩ := hz9
          exact zg_iret X hr dX7_nest_63 (Nat.le_of_ble_eq_true rfl) (Nat.le_of_ble_eq_true rfl) (⟨uN (uN σ 8 0) 8 3, mR_f 2 (by rw [sp_nest, if_pos (And.intro p0 p1), ix_nI k0, ix_nI k1, if_neg (show ¬ hB (belowI σ j1) j0 from c_36), if_pos (show hB (σ.2.2 5 j0) j1 from c_55)]) rfl rfl, rfl⟩)
      · skip
        refine zg_aload_n X dX7_nest_39 rfl ?_
        refine zg_iconst X (v := 2) dX7_nest_40 (by decide) ?_
        refine zg_callVi X (k_X7_fails l D ad T (uN σ 8 0) 2) zFr.rf gX7_nest_X7_fails rfl rfl rfl qv_X7_fails rfl ⟨Nat.le_of_ble_eq_true rfl, Nat.le_of_ble_eq_true rfl⟩ (q0 := 0) (ci := 9) rfl rfl rfl (Nat.le_of_ble_eq_true rfl) ⟨Nat.le_of_ble_eq_true rfl, Nat.le_of_ble_eq_true rfl⟩ dX7_nest_41 (fun r w1 hz9 => ?_)
        obtain ⟨rfl, rfl⟩ := hz9
        exact zg_iret X hr dX7_nest_44 (Nat.le_of_ble_eq_true rfl) (Nat.le_of_ble_eq_true rfl) (⟨uN (uN σ 8 0) 8 2, mR_f 1 (by rw [sp_nest, if_pos (And.intro p0 p1), ix_nI k0, ix_nI k1, if_pos (show hB (belowI σ j1) j0 from c_36)]) rfl rfl, rfl⟩)
    · skip
      refine zg_aload_n X dX7_nest_21 rfl ?_
      refine zg_iconst X (v := 1) dX7_nest_22 (by decide) ?_
      refine zg_callVi X (k_X7_fails l D ad T (uN σ 8 0) 1) zFr.rf gX7_nest_X7_fails rfl rfl rfl qv_X7_fails rfl ⟨Nat.le_of_ble_eq_true rfl, Nat.le_of_ble_eq_true rfl⟩ (q0 := 0) (ci := 9) rfl rfl rfl (Nat.le_of_ble_eq_true rfl) ⟨Nat.le_of_ble_eq_true rfl, Nat.le_of_ble_eq_true rfl⟩ dX7_nest_23 (fun r w1 hz9 => ?_)
      obtain ⟨rfl, rfl⟩ := hz9
      exact zg_iret X hr dX7_nest_26 (Nat.le_of_ble_eq_true rfl) (Nat.le_of_ble_eq_true rfl) (⟨uN (uN σ 8 0) 8 1, mR_f 0 (by rw [sp_nest, if_neg (fun q => c_18 q.2)]) rfl rfl, rfl⟩)

set_option maxHeartbeats 4000000 in
set_option maxRecDepth 100000 in
theorem k_X7_addRight (l : Launch) (D : va_G) (ad : Nat → Nat) (T : Nat → ClassId) (σ : ZS) (hI : zI σ) (sn o vt : Int32) (hv : vt = 0 ∨ vt = 1) : zM l yX7_addRight wsX7_addRight ({ frames := 2, cells := 0, slots := 0, locals := 43 }) D (zT T) [.ref (ad 0), .int sn, .int o, .int vt] (wM ad T σ) 0 0 (qI D (zT T) (fun v0 w => ∃ t, mR [eIA, eNS, eIS] σ (sp_addRight σ sn o vt) v0 t ∧ w = wM ad T t)) := by
  have hB0 := hI.bd
  obtain ⟨b0, b1, b2, b3, b4, b5⟩ := hI.bd
  refine zg_of (cc := cX7_addRight) (maxL := 4) (ret := (some .int)) (by decide) rfl (Nat.le_of_ble_eq_true rfl) (fun p e s m below meth c A hin hr X => ?_)
  have X : zC p s m _ meth c cX7_addRight 4 wsX7_addRight RX7 D (zT T) A := X
  have f7 : ∀ w ∈ u_ws RX7 TX7 37, w ∈ wsX7_addRight := by decide +kernel
  have l102 : Cond.fieldLink RX7 102 "RecertifyModel" "rights" "I" ∈ wsX7_addRight := by decide +kernel
  have l28 : Cond.fieldLink RX7 28 "RecertifyModel" "sensitivities" "[I" ∈ wsX7_addRight := by decide +kernel
  have l31 : Cond.fieldLink RX7 31 "RecertifyModel" "rightOwners" "[I" ∈ wsX7_addRight := by decide +kernel
  have l49 : Cond.fieldLink RX7 49 "RecertifyModel" "isVital" "[Z" ∈ wsX7_addRight := by decide +kernel
  have l85 : Cond.fieldLink RX7 85 "RecertifyModel" "thrown" "I" ∈ wsX7_addRight := by decide +kernel
  refine zg_aload_n X dX7_addRight_0 rfl ?_
  refine zg_iconst X (v := 0) dX7_addRight_1 (by decide) ?_
  refine rp_M_thrown X f7 l85 dX7_addRight_2 ?_
  refine zg_iload_n X dX7_addRight_5 rfl ?_
  refine zg_iconst X (v := 1) dX7_addRight_6 (by decide) ?_
  refine zg_bipush X (v := 9) dX7_addRight_7 (by decide) ?_
  refine zg_callSi X (k_X7_isBetween l D ad T (uN σ 8 0) sn 1 9) zFr.rf gX7_addRight_X7_isBetween rfl rfl rfl qd_X7_isBetween rfl ⟨Nat.le_of_ble_eq_true rfl, Nat.le_of_ble_eq_true rfl⟩ rfl (Nat.le_of_ble_eq_true rfl) ⟨Nat.le_of_ble_eq_true rfl, Nat.le_of_ble_eq_true rfl⟩ dX7_addRight_9 (fun r w1 hz9 => ?_)
  obtain ⟨rfl, rfl⟩ := hz9
  refine zg_if_neb X dX7_addRight_12 (tgt := 21) (by decide) (fun c_12 => ?_) (fun c_12 => ?_)
  · skip
    refine zg_aload_n X dX7_addRight_21 rfl ?_
    refine zg_iload_n X dX7_addRight_22 rfl ?_
    refine zg_callVi X (k_X7_isPerson l D ad T (uN σ 8 0) hB0 _) zFr.rf gX7_addRight_X7_isPerson rfl rfl rfl qv_X7_isPerson rfl ⟨Nat.le_of_ble_eq_true rfl, Nat.le_of_ble_eq_true rfl⟩ (q0 := 0) (ci := 9) rfl rfl rfl (Nat.le_of_ble_eq_true rfl) ⟨Nat.le_of_ble_eq_true rfl, Nat.le_of_ble_eq_true rfl⟩ dX7_addRight_23 (fun r w1 hz9 => ?_)
    obtain ⟨rfl, rfl⟩ := hz9
    refine zg_if_neb X dX7_addRight_26 (tgt := 35) (by decide) (fun c_26 => ?_) (fun c_26 => ?_)
    · skip
      have p0 : pIn o (σ.1 0) := c_26
      obtain ⟨j0, h0, e0⟩ := pIn_idx (by omega) p0
      subst e0
      have k0 : j0 < 2 ^ 31 := by omega
      refine zg_aload_n X dX7_addRight_35 rfl ?_
      refine rg_M_rights X f7 l102 dX7_addRight_36 ?_
      refine zg_bipush X (v := 10) dX7_addRight_39 (by decide) ?_
      refine zg_icmpn_ne X dX7_addRight_41 (tgt := 50) (by decide) (a := σ.1 2) (b := 10) (by omega) (by omega) (fun c_41 => ?_) (fun c_41 => ?_)
      · skip
        refine zg_aload_n X dX7_addRight_50 rfl ?_
        refine rg_M_sensitivities X f7 l28 dX7_addRight_51 ?_
        refine zg_aload_n X dX7_addRight_54 rfl ?_
        refine rg_M_rights X f7 l102 dX7_addRight_55 ?_
        refine zg_iload_n X dX7_addRight_58 rfl ?_
        refine rsM_sens X (show σ.1 2 < 10 by omega) dX7_addRight_59 ?_
        refine zg_aload_n X dX7_addRight_60 rfl ?_
        refine rg_M_rightOwners X f7 l31 dX7_addRight_61 ?_
        refine zg_aload_n X dX7_addRight_64 rfl ?_
        refine rg_M_rights X f7 l102 dX7_addRight_65 ?_
        refine zg_iload_n X dX7_addRight_68 rfl ?_
        refine rsM_rOwners X (show σ.1 2 < 10 by omega) dX7_addRight_69 ?_
        refine zg_aload_n X dX7_addRight_70 rfl ?_
        refine rg_M_isVital X f7 l49 dX7_addRight_71 ?_
        refine zg_aload_n X dX7_addRight_74 rfl ?_
        refine rg_M_rights X f7 l102 dX7_addRight_75 ?_
        refine zg_iload_n X dX7_addRight_78 rfl ?_
        refine rsM_vital X (show σ.1 2 < 10 by omega) (by rcases hv with rfl | rfl <;> rfl) dX7_addRight_79 ?_
        refine zg_aload_n X dX7_addRight_80 rfl ?_
        refine zg_dup X dX7_addRight_81 rfl ?_
        refine rg_M_rights X f7 l102 dX7_addRight_82 ?_
        refine zg_iconst X (v := 1) dX7_addRight_85 (by decide) ?_
        refine zg_iadd X dX7_addRight_86 ?_
        refine zg_top (nI_1 _) ?_
        refine rp_M_rights X f7 l102 dX7_addRight_87 ?_
        refine zg_aload_n X dX7_addRight_90 rfl ?_
        refine rg_M_rights X f7 l102 dX7_addRight_91 ?_
        refine zg_iconst X (v := 1) dX7_addRight_94 (by decide) ?_
        refine zg_isub X dX7_addRight_95 ?_
        refine zg_top (zsub1 (show 0 < σ.1 2 + 1 by omega)) ?_
        exact zg_iret X hr dX7_addRight_96 (Nat.le_of_ble_eq_true rfl) (Nat.le_of_ble_eq_true rfl) (⟨uN (uC (uA (uA (uA σ 6 (upd (σ.2.2 6) (σ.1 2) sn)) 7 (upd (σ.2.2 7) (σ.1 2) (nI j0))) 9 (upd (σ.2.2 9) (σ.1 2) vt)) 2 (σ.1 2 + 1)) 8 0, mR_r (by rw [sp_addRight, if_pos (show 1 ≤ sn ∧ sn ≤ 9 from c_12), if_pos p0, if_neg (show ¬ σ.1 2 = 10 by omega)] <;> rfl), rfl⟩)
      · skip
        refine zg_aload_n X dX7_addRight_44 rfl ?_
        refine zg_iconst X (v := 3) dX7_addRight_45 (by decide) ?_
        refine zg_callVi X (k_X7_fails l D ad T (uN σ 8 0) 3) zFr.rf gX7_addRight_X7_fails rfl rfl rfl qv_X7_fails rfl ⟨Nat.le_of_ble_eq_true rfl, Nat.le_of_ble_eq_true rfl⟩ (q0 := 0) (ci := 9) rfl rfl rfl (Nat.le_of_ble_eq_true rfl) ⟨Nat.le_of_ble_eq_true rfl, Nat.le_of_ble_eq_true rfl⟩ dX7_addRight_46 (fun r w1 hz9 => ?_)
        obtain ⟨rfl, rfl⟩ := hz9
        exact zg_iret X hr dX7_addRight_49 (Nat.le_of_ble_eq_true rfl) (Nat.le_of_ble_eq_true rfl) (⟨uN (uN σ 8 0) 8 3, mR_f 2 (by rw [sp_addRight, if_pos (show 1 ≤ sn ∧ sn ≤ 9 from c_12), if_pos p0, if_pos (show σ.1 2 = 10 by omega)]) rfl rfl, rfl⟩)
    · skip
      refine zg_aload_n X dX7_addRight_29 rfl ?_
      refine zg_iconst X (v := 2) dX7_addRight_30 (by decide) ?_
      refine zg_callVi X (k_X7_fails l D ad T (uN σ 8 0) 2) zFr.rf gX7_addRight_X7_fails rfl rfl rfl qv_X7_fails rfl ⟨Nat.le_of_ble_eq_true rfl, Nat.le_of_ble_eq_true rfl⟩ (q0 := 0) (ci := 9) rfl rfl rfl (Nat.le_of_ble_eq_true rfl) ⟨Nat.le_of_ble_eq_true rfl, Nat.le_of_ble_eq_true rfl⟩ dX7_addRight_31 (fun r w1 hz9 => ?_)
      obtain ⟨rfl, rfl⟩ := hz9
      exact zg_iret X hr dX7_addRight_34 (Nat.le_of_ble_eq_true rfl) (Nat.le_of_ble_eq_true rfl) (⟨uN (uN σ 8 0) 8 2, mR_f 1 (by rw [sp_addRight, if_pos (show 1 ≤ sn ∧ sn ≤ 9 from c_12), if_neg (show ¬ pIn o (σ.1 0) from c_26)]) rfl rfl, rfl⟩)
  · skip
    refine zg_aload_n X dX7_addRight_15 rfl ?_
    refine zg_iconst X (v := 1) dX7_addRight_16 (by decide) ?_
    refine zg_callVi X (k_X7_fails l D ad T (uN σ 8 0) 1) zFr.rf gX7_addRight_X7_fails rfl rfl rfl qv_X7_fails rfl ⟨Nat.le_of_ble_eq_true rfl, Nat.le_of_ble_eq_true rfl⟩ (q0 := 0) (ci := 9) rfl rfl rfl (Nat.le_of_ble_eq_true rfl) ⟨Nat.le_of_ble_eq_true rfl, Nat.le_of_ble_eq_true rfl⟩ dX7_addRight_17 (fun r w1 hz9 => ?_)
    obtain ⟨rfl, rfl⟩ := hz9
    exact zg_iret X hr dX7_addRight_20 (Nat.le_of_ble_eq_true rfl) (Nat.le_of_ble_eq_true rfl) (⟨uN (uN σ 8 0) 8 1, mR_f 0 (by rw [sp_addRight, if_neg c_12]) rfl rfl, rfl⟩)

set_option maxHeartbeats 4000000 in
set_option maxRecDepth 100000 in
theorem k_X7_setLimit (l : Launch) (D : va_G) (ad : Nat → Nat) (T : Nat → ClassId) (σ : ZS) (hI : zI σ) (x : Int32)  : zM l yX7_setLimit wsX7_setLimit ({ frames := 1, cells := 0, slots := 0, locals := 22 }) D (zT T) [.ref (ad 0), .int x] (wM ad T σ) 0 0 (qI D (zT T) (fun v0 w => ∃ t, mR [eIA] σ (sp_setLimit σ x) v0 t ∧ w = wM ad T t)) := by
  have hB0 := hI.bd
  obtain ⟨b0, b1, b2, b3, b4, b5⟩ := hI.bd
  refine zg_of (cc := cX7_setLimit) (maxL := 3) (ret := (some .int)) (by decide) rfl (Nat.le_of_ble_eq_true rfl) (fun p e s m below meth c A hin hr X => ?_)
  have X : zC p s m _ meth c cX7_setLimit 3 wsX7_setLimit RX7 D (zT T) A := X
  have f7 : ∀ w ∈ u_ws RX7 TX7 37, w ∈ wsX7_setLimit := by decide +kernel
  have l60 : Cond.fieldLink RX7 60 "RecertifyModel" "limit" "I" ∈ wsX7_setLimit := by decide +kernel
  have l85 : Cond.fieldLink RX7 85 "RecertifyModel" "thrown" "I" ∈ wsX7_setLimit := by decide +kernel
  refine zg_aload_n X dX7_setLimit_0 rfl ?_
  refine zg_iconst X (v := 0) dX7_setLimit_1 (by decide) ?_
  refine rp_M_thrown X f7 l85 dX7_setLimit_2 ?_
  refine zg_iload_n X dX7_setLimit_5 rfl ?_
  refine zg_iconst X (v := 0) dX7_setLimit_6 (by decide) ?_
  refine zg_sipush X (v := 999) dX7_setLimit_7 (by decide) ?_
  refine zg_callSi X (k_X7_isBetween l D ad T (uN σ 8 0) x 0 999) zFr.rf gX7_setLimit_X7_isBetween rfl rfl rfl qd_X7_isBetween rfl ⟨Nat.le_of_ble_eq_true rfl, Nat.le_of_ble_eq_true rfl⟩ rfl (Nat.le_of_ble_eq_true rfl) ⟨Nat.le_of_ble_eq_true rfl, Nat.le_of_ble_eq_true rfl⟩ dX7_setLimit_10 (fun r w1 hz9 => ?_)
  obtain ⟨rfl, rfl⟩ := hz9
  refine zg_if_neb X dX7_setLimit_13 (tgt := 22) (by decide) (fun c_13 => ?_) (fun c_13 => ?_)
  · skip
    refine zg_aload_n X dX7_setLimit_22 rfl ?_
    refine rg_M_limit X f7 l60 dX7_setLimit_23 ?_
    refine zg_istore_n X dX7_setLimit_26 (by decide) ?_
    refine zg_aload_n X dX7_setLimit_27 rfl ?_
    refine zg_iload_n X dX7_setLimit_28 rfl ?_
    refine rp_M_limit X f7 l60 dX7_setLimit_29 ?_
    refine zg_iload_n X dX7_setLimit_32 rfl ?_
    exact zg_iret X hr dX7_setLimit_33 (Nat.le_of_ble_eq_true rfl) (Nat.le_of_ble_eq_true rfl) (⟨uN (uN σ 1 x) 8 0, mR_r (by rw [sp_setLimit, if_pos (show 0 ≤ x ∧ x ≤ 999 from c_13)] <;> rfl), rfl⟩)
  · skip
    refine zg_aload_n X dX7_setLimit_16 rfl ?_
    refine zg_iconst X (v := 1) dX7_setLimit_17 (by decide) ?_
    refine zg_callVi X (k_X7_fails l D ad T (uN σ 8 0) 1) zFr.rf gX7_setLimit_X7_fails rfl rfl rfl qv_X7_fails rfl ⟨Nat.le_of_ble_eq_true rfl, Nat.le_of_ble_eq_true rfl⟩ (q0 := 0) (ci := 9) rfl rfl rfl (Nat.le_of_ble_eq_true rfl) ⟨Nat.le_of_ble_eq_true rfl, Nat.le_of_ble_eq_true rfl⟩ dX7_setLimit_18 (fun r w1 hz9 => ?_)
    obtain ⟨rfl, rfl⟩ := hz9
    exact zg_iret X hr dX7_setLimit_21 (Nat.le_of_ble_eq_true rfl) (Nat.le_of_ble_eq_true rfl) (⟨uN (uN σ 8 0) 8 1, mR_f 0 (by rw [sp_setLimit, if_neg c_13]) rfl rfl, rfl⟩)

set_option maxHeartbeats 4000000 in
set_option maxRecDepth 100000 in
theorem k_X7_setGrace (l : Launch) (D : va_G) (ad : Nat → Nat) (T : Nat → ClassId) (σ : ZS) (hI : zI σ) (x : Int32)  : zM l yX7_setGrace wsX7_setGrace ({ frames := 1, cells := 0, slots := 0, locals := 22 }) D (zT T) [.ref (ad 0), .int x] (wM ad T σ) 0 0 (qI D (zT T) (fun v0 w => ∃ t, mR [eIA] σ (sp_setGrace σ x) v0 t ∧ w = wM ad T t)) := by
  have hB0 := hI.bd
  obtain ⟨b0, b1, b2, b3, b4, b5⟩ := hI.bd
  refine zg_of (cc := cX7_setGrace) (maxL := 3) (ret := (some .int)) (by decide) rfl (Nat.le_of_ble_eq_true rfl) (fun p e s m below meth c A hin hr X => ?_)
  have X : zC p s m _ meth c cX7_setGrace 3 wsX7_setGrace RX7 D (zT T) A := X
  have f7 : ∀ w ∈ u_ws RX7 TX7 37, w ∈ wsX7_setGrace := by decide +kernel
  have l64 : Cond.fieldLink RX7 64 "RecertifyModel" "grace" "I" ∈ wsX7_setGrace := by decide +kernel
  have l85 : Cond.fieldLink RX7 85 "RecertifyModel" "thrown" "I" ∈ wsX7_setGrace := by decide +kernel
  refine zg_aload_n X dX7_setGrace_0 rfl ?_
  refine zg_iconst X (v := 0) dX7_setGrace_1 (by decide) ?_
  refine rp_M_thrown X f7 l85 dX7_setGrace_2 ?_
  refine zg_iload_n X dX7_setGrace_5 rfl ?_
  refine zg_iconst X (v := 0) dX7_setGrace_6 (by decide) ?_
  refine zg_bipush X (v := 10) dX7_setGrace_7 (by decide) ?_
  refine zg_callSi X (k_X7_isBetween l D ad T (uN σ 8 0) x 0 10) zFr.rf gX7_setGrace_X7_isBetween rfl rfl rfl qd_X7_isBetween rfl ⟨Nat.le_of_ble_eq_true rfl, Nat.le_of_ble_eq_true rfl⟩ rfl (Nat.le_of_ble_eq_true rfl) ⟨Nat.le_of_ble_eq_true rfl, Nat.le_of_ble_eq_true rfl⟩ dX7_setGrace_9 (fun r w1 hz9 => ?_)
  obtain ⟨rfl, rfl⟩ := hz9
  refine zg_if_neb X dX7_setGrace_12 (tgt := 21) (by decide) (fun c_12 => ?_) (fun c_12 => ?_)
  · skip
    refine zg_aload_n X dX7_setGrace_21 rfl ?_
    refine rg_M_grace X f7 l64 dX7_setGrace_22 ?_
    refine zg_istore_n X dX7_setGrace_25 (by decide) ?_
    refine zg_aload_n X dX7_setGrace_26 rfl ?_
    refine zg_iload_n X dX7_setGrace_27 rfl ?_
    refine rp_M_grace X f7 l64 dX7_setGrace_28 ?_
    refine zg_iload_n X dX7_setGrace_31 rfl ?_
    exact zg_iret X hr dX7_setGrace_32 (Nat.le_of_ble_eq_true rfl) (Nat.le_of_ble_eq_true rfl) (⟨uN (uN σ 2 x) 8 0, mR_r (by rw [sp_setGrace, if_pos (show 0 ≤ x ∧ x ≤ 10 from c_12)] <;> rfl), rfl⟩)
  · skip
    refine zg_aload_n X dX7_setGrace_15 rfl ?_
    refine zg_iconst X (v := 1) dX7_setGrace_16 (by decide) ?_
    refine zg_callVi X (k_X7_fails l D ad T (uN σ 8 0) 1) zFr.rf gX7_setGrace_X7_fails rfl rfl rfl qv_X7_fails rfl ⟨Nat.le_of_ble_eq_true rfl, Nat.le_of_ble_eq_true rfl⟩ (q0 := 0) (ci := 9) rfl rfl rfl (Nat.le_of_ble_eq_true rfl) ⟨Nat.le_of_ble_eq_true rfl, Nat.le_of_ble_eq_true rfl⟩ dX7_setGrace_17 (fun r w1 hz9 => ?_)
    obtain ⟨rfl, rfl⟩ := hz9
    exact zg_iret X hr dX7_setGrace_20 (Nat.le_of_ble_eq_true rfl) (Nat.le_of_ble_eq_true rfl) (⟨uN (uN σ 8 0) 8 1, mR_f 0 (by rw [sp_setGrace, if_neg c_12]) rfl rfl, rfl⟩)

set_option maxHeartbeats 4000000 in
set_option maxRecDepth 100000 in
theorem k_X7_gives (l : Launch) (D : va_G) (ad : Nat → Nat) (T : Nat → ClassId) (σ : ZS) (hI : zI σ) (r x k : Int32) (hk : k = 0 ∨ k = 1) : zM l yX7_gives wsX7_gives ({ frames := 1, cells := 0, slots := 0, locals := 21 }) D (zT T) [.ref (ad 0), .int r, .int x, .int k] (wM ad T σ) 0 0 (qI D (zT T) (fun v0 w => v0 = (if mdP σ r x k then 0 else nI (σ.1 3)) ∧ w = wM ad T (gvS σ r x k))) := by
  have hB0 := hI.bd
  obtain ⟨b0, b1, b2, b3, b4, b5⟩ := hI.bd
  refine zg_of (cc := cX7_gives) (maxL := 6) (ret := (some .int)) (by decide) rfl (Nat.le_of_ble_eq_true rfl) (fun p e s m below meth c A hin hr X => ?_)
  have X : zC p s m _ meth c cX7_gives 6 wsX7_gives RX7 D (zT T) A := X
  have f7 : ∀ w ∈ u_ws RX7 TX7 37, w ∈ wsX7_gives := by decide +kernel
  have l105 : Cond.fieldLink RX7 105 "RecertifyModel" "grants" "I" ∈ wsX7_gives := by decide +kernel
  have l134 : Cond.fieldLink RX7 134 "RecertifyModel" "day" "I" ∈ wsX7_gives := by decide +kernel
  have l37 : Cond.fieldLink RX7 37 "RecertifyModel" "rightOf" "[I" ∈ wsX7_gives := by decide +kernel
  have l40 : Cond.fieldLink RX7 40 "RecertifyModel" "targets" "[I" ∈ wsX7_gives := by decide +kernel
  have l43 : Cond.fieldLink RX7 43 "RecertifyModel" "used" "[I" ∈ wsX7_gives := by decide +kernel
  have l53 : Cond.fieldLink RX7 53 "RecertifyModel" "isToGroup" "[Z" ∈ wsX7_gives := by decide +kernel
  have l56 : Cond.fieldLink RX7 56 "RecertifyModel" "states" "[C" ∈ wsX7_gives := by decide +kernel
  refine zg_aload_n X dX7_gives_0 rfl ?_
  refine rg_M_grants X f7 l105 dX7_gives_1 ?_
  refine zg_bipush X (v := 24) dX7_gives_4 (by decide) ?_
  refine zg_icmpn_ne X dX7_gives_6 (tgt := 13) (by decide) (a := σ.1 3) (b := 24) (by omega) (by omega) (fun c_6 => ?_) (fun c_6 => ?_)
  · skip
    refine zg_iconst X (v := 0) dX7_gives_13 (by decide) ?_
    refine zg_top (v' := mdF σ r x k 0) (show _ = bI (σ.1 3 = 24) from (bI_f (by omega)).symm) ?_
    refine zg_istore X dX7_gives_14 (by decide) ?_
    refine zg_iconst X (v := 0) dX7_gives_16 (by decide) ?_
    refine zg_istore X dX7_gives_17 (by decide) ?_
    have LP19 : ∀ (fu : Nat) (i : Nat) (mk : Int32), σ.1 3 + 1 ≤ i + fu → i ≤ σ.1 3 → mk = mdF σ r x k i → zG p l e (headSpec wsX7_gives ({ frames := 1, cells := 0, slots := 0, locals := 21 })).room s m [.ref (ad 0), .int r, .int x, .int k].toArray below meth c D 6 A 0 0 (MQ below (qI D (zT T) (fun v0 w => v0 = (if mdP σ r x k then 0 else nI (σ.1 3)) ∧ w = wM ad T (gvS σ r x k)) A) [.ref (ad 0), .int r, .int x, .int k].toArray s 0 0 A) (wM ad T σ) 19 [(0, .ref (ad 0)), (1, .int r), (2, .int x), (3, .int k), (4, .int mk), (5, .int (nI i))] [] := by
      intro fu
      induction fu with
      | zero => intro i mk hfu hii _; exact absurd hfu (by omega)
      | succ fu ih19 =>
        intro i mk hfu hii hmk
        refine zg_iload X dX7_gives_19 rfl ?_
        refine zg_aload_n X dX7_gives_21 rfl ?_
        refine rg_M_grants X f7 l105 dX7_gives_22 ?_
        refine zg_icmpn_ge X dX7_gives_25 (tgt := 89) (by decide) (a := i) (b := σ.1 3) (by omega) (by omega) (fun c_25 => ?_) (fun c_25 => ?_)
        · skip
          refine zg_iload X dX7_gives_89 rfl ?_
          have hz : mk = bI (mdP σ r x k) := by rw [hmk, show i = σ.1 3 by omega]; exact mdF_s _
          refine zg_if_eq X dX7_gives_91 (tgt := 100) (by decide) (fun c_91 => ?_) (fun c_91 => ?_)
          · skip
            have hm : ¬ mdP σ r x k := bI_z (hz.symm.trans c_91)
            have h24 : ¬ σ.1 3 = 24 := fun q => hm (Or.inl q)
            refine zg_aload_n X dX7_gives_100 rfl ?_
            refine rg_M_rightOf X f7 l37 dX7_gives_101 ?_
            refine zg_aload_n X dX7_gives_104 rfl ?_
            refine rg_M_grants X f7 l105 dX7_gives_105 ?_
            refine zg_iload_n X dX7_gives_108 rfl ?_
            refine rsM_gRight X (show σ.1 3 < 24 by omega) dX7_gives_109 ?_
            refine zg_aload_n X dX7_gives_110 rfl ?_
            refine rg_M_targets X f7 l40 dX7_gives_111 ?_
            refine zg_aload_n X dX7_gives_114 rfl ?_
            refine rg_M_grants X f7 l105 dX7_gives_115 ?_
            refine zg_iload_n X dX7_gives_118 rfl ?_
            refine rsM_targets X (show σ.1 3 < 24 by omega) dX7_gives_119 ?_
            refine zg_aload_n X dX7_gives_120 rfl ?_
            refine rg_M_isToGroup X f7 l53 dX7_gives_121 ?_
            refine zg_aload_n X dX7_gives_124 rfl ?_
            refine rg_M_grants X f7 l105 dX7_gives_125 ?_
            refine zg_iload_n X dX7_gives_128 rfl ?_
            refine rsM_isToGroup X (show σ.1 3 < 24 by omega) (by rcases hk with rfl | rfl <;> rfl) dX7_gives_129 ?_
            refine zg_aload_n X dX7_gives_130 rfl ?_
            refine rg_M_used X f7 l43 dX7_gives_131 ?_
            refine zg_aload_n X dX7_gives_134 rfl ?_
            refine rg_M_grants X f7 l105 dX7_gives_135 ?_
            refine zg_aload_n X dX7_gives_138 rfl ?_
            refine rg_M_day X f7 l134 dX7_gives_139 ?_
            refine rsM_used X (show σ.1 3 < 24 by omega) dX7_gives_142 ?_
            refine zg_aload_n X dX7_gives_143 rfl ?_
            refine rg_M_states X f7 l56 dX7_gives_144 ?_
            refine zg_aload_n X dX7_gives_147 rfl ?_
            refine rg_M_grants X f7 l105 dX7_gives_148 ?_
            refine zg_bipush X (v := 97) dX7_gives_151 (by decide) ?_
            refine rsM_states X (show σ.1 3 < 24 by omega) rfl dX7_gives_153 ?_
            refine zg_aload_n X dX7_gives_154 rfl ?_
            refine zg_dup X dX7_gives_155 rfl ?_
            refine rg_M_grants X f7 l105 dX7_gives_156 ?_
            refine zg_iconst X (v := 1) dX7_gives_159 (by decide) ?_
            refine zg_iadd X dX7_gives_160 ?_
            refine zg_top (nI_1 _) ?_
            refine rp_M_grants X f7 l105 dX7_gives_161 ?_
            refine zg_aload_n X dX7_gives_164 rfl ?_
            refine rg_M_grants X f7 l105 dX7_gives_165 ?_
            refine zg_iconst X (v := 1) dX7_gives_168 (by decide) ?_
            refine zg_isub X dX7_gives_169 ?_
            refine zg_top (zsub1 (show 0 < σ.1 3 + 1 by omega)) ?_
            exact zg_iret X hr dX7_gives_170 (Nat.le_of_ble_eq_true rfl) (Nat.le_of_ble_eq_true rfl) (⟨(if_neg hm).symm, by rw [gvS_f hm]; rfl⟩)
          · skip
            have hm : mdP σ r x k := bI_nz (by rw [← hz]; exact c_91)
            refine zg_aload_n X dX7_gives_94 rfl ?_
            refine zg_iconst X (v := 2) dX7_gives_95 (by decide) ?_
            refine zg_callVi X (k_X7_fails l D ad T σ 2) zFr.rf gX7_gives_X7_fails rfl rfl rfl qv_X7_fails rfl ⟨Nat.le_of_ble_eq_true rfl, Nat.le_of_ble_eq_true rfl⟩ (q0 := 0) (ci := 9) rfl rfl rfl (Nat.le_of_ble_eq_true rfl) ⟨Nat.le_of_ble_eq_true rfl, Nat.le_of_ble_eq_true rfl⟩ dX7_gives_96 (fun r w1 hz9 => ?_)
            obtain ⟨rfl, rfl⟩ := hz9
            exact zg_iret X hr dX7_gives_99 (Nat.le_of_ble_eq_true rfl) (Nat.le_of_ble_eq_true rfl) (⟨(if_pos hm).symm, by rw [gvS_t hm]⟩)
        · skip
          refine zg_iload X dX7_gives_28 rfl ?_
          refine zg_aload_n X dX7_gives_30 rfl ?_
          refine rg_M_states X f7 l56 dX7_gives_31 ?_
          refine zg_iload X dX7_gives_34 rfl ?_
          refine rlM_states X (by omega) dX7_gives_36 ?_
          refine zg_bipush X (v := 120) dX7_gives_37 (by decide) ?_
          refine zg_icmp_eq X dX7_gives_39 (tgt := 79) (by decide) (fun c_39 => ?_) (fun c_39 => ?_)
          · skip
            refine zg_iconst X (v := 0) dX7_gives_79 (by decide) ?_
            refine zg_ior X dX7_gives_80 ?_
            refine zg_istore X dX7_gives_81 (by decide) ?_
            refine zg_iinc1 X dX7_gives_83 (by decide) rfl ?_
            refine zg_goto X dX7_gives_86 (tgt := 19) (by decide) ?_
            exact zg_lv (by exact ⟨rfl, rfl, rfl, rfl, rfl, rfl, trivial⟩) (ih19 (i + 1) _ (by omega) (by omega) (by rw [mdF_n, ← hmk, bI_f (show ¬ (actOf σ i r ∧ σ.2.2 25 i = x ∧ σ.2.2 26 i = k) from fun q => q.1.2 c_39)]))
          · skip
            refine zg_aload_n X dX7_gives_42 rfl ?_
            refine rg_M_rightOf X f7 l37 dX7_gives_43 ?_
            refine zg_iload X dX7_gives_46 rfl ?_
            refine rlM_gRight X (by omega) dX7_gives_48 ?_
            refine zg_iload_n X dX7_gives_49 rfl ?_
            refine zg_icmp_ne X dX7_gives_50 (tgt := 79) (by decide) (fun c_50 => ?_) (fun c_50 => ?_)
            · skip
              refine zg_iconst X (v := 0) dX7_gives_79 (by decide) ?_
              refine zg_ior X dX7_gives_80 ?_
              refine zg_istore X dX7_gives_81 (by decide) ?_
              refine zg_iinc1 X dX7_gives_83 (by decide) rfl ?_
              refine zg_goto X dX7_gives_86 (tgt := 19) (by decide) ?_
              exact zg_lv (by exact ⟨rfl, rfl, rfl, rfl, rfl, rfl, trivial⟩) (ih19 (i + 1) _ (by omega) (by omega) (by rw [mdF_n, ← hmk, bI_f (show ¬ (actOf σ i r ∧ σ.2.2 25 i = x ∧ σ.2.2 26 i = k) from fun q => c_50 q.1.1)]))
            · skip
              refine zg_aload_n X dX7_gives_53 rfl ?_
              refine rg_M_targets X f7 l40 dX7_gives_54 ?_
              refine zg_iload X dX7_gives_57 rfl ?_
              refine rlM_targets X (by omega) dX7_gives_59 ?_
              refine zg_iload_n X dX7_gives_60 rfl ?_
              refine zg_icmp_ne X dX7_gives_61 (tgt := 79) (by decide) (fun c_61 => ?_) (fun c_61 => ?_)
              · skip
                refine zg_iconst X (v := 0) dX7_gives_79 (by decide) ?_
                refine zg_ior X dX7_gives_80 ?_
                refine zg_istore X dX7_gives_81 (by decide) ?_
                refine zg_iinc1 X dX7_gives_83 (by decide) rfl ?_
                refine zg_goto X dX7_gives_86 (tgt := 19) (by decide) ?_
                exact zg_lv (by exact ⟨rfl, rfl, rfl, rfl, rfl, rfl, trivial⟩) (ih19 (i + 1) _ (by omega) (by omega) (by rw [mdF_n, ← hmk, bI_f (show ¬ (actOf σ i r ∧ σ.2.2 25 i = x ∧ σ.2.2 26 i = k) from fun q => c_61 q.2.1)]))
              · skip
                refine zg_aload_n X dX7_gives_64 rfl ?_
                refine rg_M_isToGroup X f7 l53 dX7_gives_65 ?_
                refine zg_iload X dX7_gives_68 rfl ?_
                refine rlM_isToGroup X (by omega) dX7_gives_70 ?_
                refine zg_iload_n X dX7_gives_71 rfl ?_
                refine zg_icmp_ne X dX7_gives_72 (tgt := 79) (by decide) (fun c_72 => ?_) (fun c_72 => ?_)
                · skip
                  refine zg_iconst X (v := 0) dX7_gives_79 (by decide) ?_
                  refine zg_ior X dX7_gives_80 ?_
                  refine zg_istore X dX7_gives_81 (by decide) ?_
                  refine zg_iinc1 X dX7_gives_83 (by decide) rfl ?_
                  refine zg_goto X dX7_gives_86 (tgt := 19) (by decide) ?_
                  exact zg_lv (by exact ⟨rfl, rfl, rfl, rfl, rfl, rfl, trivial⟩) (ih19 (i + 1) _ (by omega) (by omega) (by rw [mdF_n, ← hmk, bI_f (show ¬ (actOf σ i r ∧ σ.2.2 25 i = x ∧ σ.2.2 26 i = k) from fun q => c_72 q.2.2)]))
                · skip
                  refine zg_iconst X (v := 1) dX7_gives_75 (by decide) ?_
                  refine zg_goto X dX7_gives_76 (tgt := 80) (by decide) ?_
                  refine zg_ior X dX7_gives_80 ?_
                  refine zg_istore X dX7_gives_81 (by decide) ?_
                  refine zg_iinc1 X dX7_gives_83 (by decide) rfl ?_
                  refine zg_goto X dX7_gives_86 (tgt := 19) (by decide) ?_
                  exact zg_lv (by exact ⟨rfl, rfl, rfl, rfl, rfl, rfl, trivial⟩) (ih19 (i + 1) _ (by omega) (by omega) (by rw [mdF_n, ← hmk, bI_t (show actOf σ i r ∧ σ.2.2 25 i = x ∧ σ.2.2 26 i = k from ⟨⟨c_50, c_39⟩, c_61, c_72⟩)]))
    exact zg_lv (by exact ⟨rfl, rfl, rfl, rfl, rfl, rfl, trivial⟩) (LP19 (σ.1 3 + 1) 0 _ (by omega) (by omega) rfl)
  · skip
    refine zg_iconst X (v := 1) dX7_gives_9 (by decide) ?_
    refine zg_goto X dX7_gives_10 (tgt := 14) (by decide) ?_
    refine zg_top (v' := mdF σ r x k 0) (show _ = bI (σ.1 3 = 24) from (bI_t (by omega)).symm) ?_
    refine zg_istore X dX7_gives_14 (by decide) ?_
    refine zg_iconst X (v := 0) dX7_gives_16 (by decide) ?_
    refine zg_istore X dX7_gives_17 (by decide) ?_
    have LP19 : ∀ (fu : Nat) (i : Nat) (mk : Int32), σ.1 3 + 1 ≤ i + fu → i ≤ σ.1 3 → mk = mdF σ r x k i → zG p l e (headSpec wsX7_gives ({ frames := 1, cells := 0, slots := 0, locals := 21 })).room s m [.ref (ad 0), .int r, .int x, .int k].toArray below meth c D 6 A 0 0 (MQ below (qI D (zT T) (fun v0 w => v0 = (if mdP σ r x k then 0 else nI (σ.1 3)) ∧ w = wM ad T (gvS σ r x k)) A) [.ref (ad 0), .int r, .int x, .int k].toArray s 0 0 A) (wM ad T σ) 19 [(0, .ref (ad 0)), (1, .int r), (2, .int x), (3, .int k), (4, .int mk), (5, .int (nI i))] [] := by
      intro fu
      induction fu with
      | zero => intro i mk hfu hii _; exact absurd hfu (by omega)
      | succ fu ih19 =>
        intro i mk hfu hii hmk
        refine zg_iload X dX7_gives_19 rfl ?_
        refine zg_aload_n X dX7_gives_21 rfl ?_
        refine rg_M_grants X f7 l105 dX7_gives_22 ?_
        refine zg_icmpn_ge X dX7_gives_25 (tgt := 89) (by decide) (a := i) (b := σ.1 3) (by omega) (by omega) (fun c_25 => ?_) (fun c_25 => ?_)
        · skip
          refine zg_iload X dX7_gives_89 rfl ?_
          have hz : mk = bI (mdP σ r x k) := by rw [hmk, show i = σ.1 3 by omega]; exact mdF_s _
          refine zg_if_eq X dX7_gives_91 (tgt := 100) (by decide) (fun c_91 => ?_) (fun c_91 => ?_)
          · skip
            have hm : ¬ mdP σ r x k := bI_z (hz.symm.trans c_91)
            have h24 : ¬ σ.1 3 = 24 := fun q => hm (Or.inl q)
            refine zg_aload_n X dX7_gives_100 rfl ?_
            refine rg_M_rightOf X f7 l37 dX7_gives_101 ?_
            refine zg_aload_n X dX7_gives_104 rfl ?_
            refine rg_M_grants X f7 l105 dX7_gives_105 ?_
            refine zg_iload_n X dX7_gives_108 rfl ?_
            refine rsM_gRight X (show σ.1 3 < 24 by omega) dX7_gives_109 ?_
            refine zg_aload_n X dX7_gives_110 rfl ?_
            refine rg_M_targets X f7 l40 dX7_gives_111 ?_
            refine zg_aload_n X dX7_gives_114 rfl ?_
            refine rg_M_grants X f7 l105 dX7_gives_115 ?_
            refine zg_iload_n X dX7_gives_118 rfl ?_
            refine rsM_targets X (show σ.1 3 < 24 by omega) dX7_gives_119 ?_
            refine zg_aload_n X dX7_gives_120 rfl ?_
            refine rg_M_isToGroup X f7 l53 dX7_gives_121 ?_
            refine zg_aload_n X dX7_gives_124 rfl ?_
            refine rg_M_grants X f7 l105 dX7_gives_125 ?_
            refine zg_iload_n X dX7_gives_128 rfl ?_
            refine rsM_isToGroup X (show σ.1 3 < 24 by omega) (by rcases hk with rfl | rfl <;> rfl) dX7_gives_129 ?_
            refine zg_aload_n X dX7_gives_130 rfl ?_
            refine rg_M_used X f7 l43 dX7_gives_131 ?_
            refine zg_aload_n X dX7_gives_134 rfl ?_
            refine rg_M_grants X f7 l105 dX7_gives_135 ?_
            refine zg_aload_n X dX7_gives_138 rfl ?_
            refine rg_M_day X f7 l134 dX7_gives_139 ?_
            refine rsM_used X (show σ.1 3 < 24 by omega) dX7_gives_142 ?_
            refine zg_aload_n X dX7_gives_143 rfl ?_
            refine rg_M_states X f7 l56 dX7_gives_144 ?_
            refine zg_aload_n X dX7_gives_147 rfl ?_
            refine rg_M_grants X f7 l105 dX7_gives_148 ?_
            refine zg_bipush X (v := 97) dX7_gives_151 (by decide) ?_
            refine rsM_states X (show σ.1 3 < 24 by omega) rfl dX7_gives_153 ?_
            refine zg_aload_n X dX7_gives_154 rfl ?_
            refine zg_dup X dX7_gives_155 rfl ?_
            refine rg_M_grants X f7 l105 dX7_gives_156 ?_
            refine zg_iconst X (v := 1) dX7_gives_159 (by decide) ?_
            refine zg_iadd X dX7_gives_160 ?_
            refine zg_top (nI_1 _) ?_
            refine rp_M_grants X f7 l105 dX7_gives_161 ?_
            refine zg_aload_n X dX7_gives_164 rfl ?_
            refine rg_M_grants X f7 l105 dX7_gives_165 ?_
            refine zg_iconst X (v := 1) dX7_gives_168 (by decide) ?_
            refine zg_isub X dX7_gives_169 ?_
            refine zg_top (zsub1 (show 0 < σ.1 3 + 1 by omega)) ?_
            exact zg_iret X hr dX7_gives_170 (Nat.le_of_ble_eq_true rfl) (Nat.le_of_ble_eq_true rfl) (⟨(if_neg hm).symm, by rw [gvS_f hm]; rfl⟩)
          · skip
            have hm : mdP σ r x k := bI_nz (by rw [← hz]; exact c_91)
            refine zg_aload_n X dX7_gives_94 rfl ?_
            refine zg_iconst X (v := 2) dX7_gives_95 (by decide) ?_
            refine zg_callVi X (k_X7_fails l D ad T σ 2) zFr.rf gX7_gives_X7_fails rfl rfl rfl qv_X7_fails rfl ⟨Nat.le_of_ble_eq_true rfl, Nat.le_of_ble_eq_true rfl⟩ (q0 := 0) (ci := 9) rfl rfl rfl (Nat.le_of_ble_eq_true rfl) ⟨Nat.le_of_ble_eq_true rfl, Nat.le_of_ble_eq_true rfl⟩ dX7_gives_96 (fun r w1 hz9 => ?_)
            obtain ⟨rfl, rfl⟩ := hz9
            exact zg_iret X hr dX7_gives_99 (Nat.le_of_ble_eq_true rfl) (Nat.le_of_ble_eq_true rfl) (⟨(if_pos hm).symm, by rw [gvS_t hm]⟩)
        · skip
          refine zg_iload X dX7_gives_28 rfl ?_
          refine zg_aload_n X dX7_gives_30 rfl ?_
          refine rg_M_states X f7 l56 dX7_gives_31 ?_
          refine zg_iload X dX7_gives_34 rfl ?_
          refine rlM_states X (by omega) dX7_gives_36 ?_
          refine zg_bipush X (v := 120) dX7_gives_37 (by decide) ?_
          refine zg_icmp_eq X dX7_gives_39 (tgt := 79) (by decide) (fun c_39 => ?_) (fun c_39 => ?_)
          · skip
            refine zg_iconst X (v := 0) dX7_gives_79 (by decide) ?_
            refine zg_ior X dX7_gives_80 ?_
            refine zg_istore X dX7_gives_81 (by decide) ?_
            refine zg_iinc1 X dX7_gives_83 (by decide) rfl ?_
            refine zg_goto X dX7_gives_86 (tgt := 19) (by decide) ?_
            exact zg_lv (by exact ⟨rfl, rfl, rfl, rfl, rfl, rfl, trivial⟩) (ih19 (i + 1) _ (by omega) (by omega) (by rw [mdF_n, ← hmk, bI_f (show ¬ (actOf σ i r ∧ σ.2.2 25 i = x ∧ σ.2.2 26 i = k) from fun q => q.1.2 c_39)]))
          · skip
            refine zg_aload_n X dX7_gives_42 rfl ?_
            refine rg_M_rightOf X f7 l37 dX7_gives_43 ?_
            refine zg_iload X dX7_gives_46 rfl ?_
            refine rlM_gRight X (by omega) dX7_gives_48 ?_
            refine zg_iload_n X dX7_gives_49 rfl ?_
            refine zg_icmp_ne X dX7_gives_50 (tgt := 79) (by decide) (fun c_50 => ?_) (fun c_50 => ?_)
            · skip
              refine zg_iconst X (v := 0) dX7_gives_79 (by decide) ?_
              refine zg_ior X dX7_gives_80 ?_
              refine zg_istore X dX7_gives_81 (by decide) ?_
              refine zg_iinc1 X dX7_gives_83 (by decide) rfl ?_
              refine zg_goto X dX7_gives_86 (tgt := 19) (by decide) ?_
              exact zg_lv (by exact ⟨rfl, rfl, rfl, rfl, rfl, rfl, trivial⟩) (ih19 (i + 1) _ (by omega) (by omega) (by rw [mdF_n, ← hmk, bI_f (show ¬ (actOf σ i r ∧ σ.2.2 25 i = x ∧ σ.2.2 26 i = k) from fun q => c_50 q.1.1)]))
            · skip
              refine zg_aload_n X dX7_gives_53 rfl ?_
              refine rg_M_targets X f7 l40 dX7_gives_54 ?_
              refine zg_iload X dX7_gives_57 rfl ?_
              refine rlM_targets X (by omega) dX7_gives_59 ?_
              refine zg_iload_n X dX7_gives_60 rfl ?_
              refine zg_icmp_ne X dX7_gives_61 (tgt := 79) (by decide) (fun c_61 => ?_) (fun c_61 => ?_)
              · skip
                refine zg_iconst X (v := 0) dX7_gives_79 (by decide) ?_
                refine zg_ior X dX7_gives_80 ?_
                refine zg_istore X dX7_gives_81 (by decide) ?_
                refine zg_iinc1 X dX7_gives_83 (by decide) rfl ?_
                refine zg_goto X dX7_gives_86 (tgt := 19) (by decide) ?_
                exact zg_lv (by exact ⟨rfl, rfl, rfl, rfl, rfl, rfl, trivial⟩) (ih19 (i + 1) _ (by omega) (by omega) (by rw [mdF_n, ← hmk, bI_f (show ¬ (actOf σ i r ∧ σ.2.2 25 i = x ∧ σ.2.2 26 i = k) from fun q => c_61 q.2.1)]))
              · skip
                refine zg_aload_n X dX7_gives_64 rfl ?_
                refine rg_M_isToGroup X f7 l53 dX7_gives_65 ?_
                refine zg_iload X dX7_gives_68 rfl ?_
                refine rlM_isToGroup X (by omega) dX7_gives_70 ?_
                refine zg_iload_n X dX7_gives_71 rfl ?_
                refine zg_icmp_ne X dX7_gives_72 (tgt := 79) (by decide) (fun c_72 => ?_) (fun c_72 => ?_)
                · skip
                  refine zg_iconst X (v := 0) dX7_gives_79 (by decide) ?_
                  refine zg_ior X dX7_gives_80 ?_
                  refine zg_istore X dX7_gives_81 (by decide) ?_
                  refine zg_iinc1 X dX7_gives_83 (by decide) rfl ?_
                  refine zg_goto X dX7_gives_86 (tgt := 19) (by decide) ?_
                  exact zg_lv (by exact ⟨rfl, rfl, rfl, rfl, rfl, rfl, trivial⟩) (ih19 (i + 1) _ (by omega) (by omega) (by rw [mdF_n, ← hmk, bI_f (show ¬ (actOf σ i r ∧ σ.2.2 25 i = x ∧ σ.2.2 26 i = k) from fun q => c_72 q.2.2)]))
                · skip
                  refine zg_iconst X (v := 1) dX7_gives_75 (by decide) ?_
                  refine zg_goto X dX7_gives_76 (tgt := 80) (by decide) ?_
                  refine zg_ior X dX7_gives_80 ?_
                  refine zg_istore X dX7_gives_81 (by decide) ?_
                  refine zg_iinc1 X dX7_gives_83 (by decide) rfl ?_
                  refine zg_goto X dX7_gives_86 (tgt := 19) (by decide) ?_
                  exact zg_lv (by exact ⟨rfl, rfl, rfl, rfl, rfl, rfl, trivial⟩) (ih19 (i + 1) _ (by omega) (by omega) (by rw [mdF_n, ← hmk, bI_t (show actOf σ i r ∧ σ.2.2 25 i = x ∧ σ.2.2 26 i = k from ⟨⟨c_50, c_39⟩, c_61, c_72⟩)]))
    exact zg_lv (by exact ⟨rfl, rfl, rfl, rfl, rfl, rfl, trivial⟩) (LP19 (σ.1 3 + 1) 0 _ (by omega) (by omega) rfl)

set_option maxHeartbeats 4000000 in
set_option maxRecDepth 100000 in
theorem k_X7_grantPerson (l : Launch) (D : va_G) (ad : Nat → Nat) (T : Nat → ClassId) (σ : ZS) (hI : zI σ) (x y : Int32)  : zM l yX7_grantPerson wsX7_grantPerson ({ frames := 2, cells := 0, slots := 0, locals := 46 }) D (zT T) [.ref (ad 0), .int x, .int y] (wM ad T σ) 0 0 (qI D (zT T) (fun v0 w => ∃ t, mR [eNS, eIS] σ (sp_grantPerson σ x y) v0 t ∧ w = wM ad T t)) := by
  have hB0 := hI.bd
  obtain ⟨b0, b1, b2, b3, b4, b5⟩ := hI.bd
  refine zg_of (cc := cX7_grantPerson) (maxL := 4) (ret := (some .int)) (by decide) rfl (Nat.le_of_ble_eq_true rfl) (fun p e s m below meth c A hin hr X => ?_)
  have X : zC p s m _ meth c cX7_grantPerson 4 wsX7_grantPerson RX7 D (zT T) A := X
  have f7 : ∀ w ∈ u_ws RX7 TX7 37, w ∈ wsX7_grantPerson := by decide +kernel
  have l34 : Cond.fieldLink RX7 34 "RecertifyModel" "denied" "[I" ∈ wsX7_grantPerson := by decide +kernel
  have l85 : Cond.fieldLink RX7 85 "RecertifyModel" "thrown" "I" ∈ wsX7_grantPerson := by decide +kernel
  refine zg_aload_n X dX7_grantPerson_0 rfl ?_
  refine zg_iconst X (v := 0) dX7_grantPerson_1 (by decide) ?_
  refine rp_M_thrown X f7 l85 dX7_grantPerson_2 ?_
  refine zg_aload_n X dX7_grantPerson_5 rfl ?_
  refine zg_iload_n X dX7_grantPerson_6 rfl ?_
  refine zg_callVi X (k_X7_isRight l D ad T (uN σ 8 0) hB0 _) zFr.rf gX7_grantPerson_X7_isRight rfl rfl rfl qv_X7_isRight rfl ⟨Nat.le_of_ble_eq_true rfl, Nat.le_of_ble_eq_true rfl⟩ (q0 := 0) (ci := 9) rfl rfl rfl (Nat.le_of_ble_eq_true rfl) ⟨Nat.le_of_ble_eq_true rfl, Nat.le_of_ble_eq_true rfl⟩ dX7_grantPerson_7 (fun r w1 hz9 => ?_)
  obtain ⟨rfl, rfl⟩ := hz9
  refine zg_if_eqb X dX7_grantPerson_10 (tgt := 21) (by decide) (fun c_10 => ?_) (fun c_10 => ?_)
  · skip
    refine zg_aload_n X dX7_grantPerson_21 rfl ?_
    refine zg_iconst X (v := 1) dX7_grantPerson_22 (by decide) ?_
    refine zg_callVi X (k_X7_fails l D ad T (uN σ 8 0) 1) zFr.rf gX7_grantPerson_X7_fails rfl rfl rfl qv_X7_fails rfl ⟨Nat.le_of_ble_eq_true rfl, Nat.le_of_ble_eq_true rfl⟩ (q0 := 0) (ci := 9) rfl rfl rfl (Nat.le_of_ble_eq_true rfl) ⟨Nat.le_of_ble_eq_true rfl, Nat.le_of_ble_eq_true rfl⟩ dX7_grantPerson_23 (fun r w1 hz9 => ?_)
    obtain ⟨rfl, rfl⟩ := hz9
    exact zg_iret X hr dX7_grantPerson_26 (Nat.le_of_ble_eq_true rfl) (Nat.le_of_ble_eq_true rfl) (⟨uN (uN σ 8 0) 8 1, mR_f 0 (by rw [sp_grantPerson, if_neg (fun q => c_10 q.1)]) rfl rfl, rfl⟩)
  · skip
    have p0 : pIn x (σ.1 2) := c_10
    obtain ⟨j0, h0, e0⟩ := pIn_idx (by omega) p0
    subst e0
    have k0 : j0 < 2 ^ 31 := by omega
    refine zg_aload_n X dX7_grantPerson_13 rfl ?_
    refine zg_iload_n X dX7_grantPerson_14 rfl ?_
    refine zg_callVi X (k_X7_isPerson l D ad T (uN σ 8 0) hB0 _) zFr.rf gX7_grantPerson_X7_isPerson rfl rfl rfl qv_X7_isPerson rfl ⟨Nat.le_of_ble_eq_true rfl, Nat.le_of_ble_eq_true rfl⟩ (q0 := 0) (ci := 9) rfl rfl rfl (Nat.le_of_ble_eq_true rfl) ⟨Nat.le_of_ble_eq_true rfl, Nat.le_of_ble_eq_true rfl⟩ dX7_grantPerson_15 (fun r w1 hz9 => ?_)
    obtain ⟨rfl, rfl⟩ := hz9
    refine zg_if_neb X dX7_grantPerson_18 (tgt := 27) (by decide) (fun c_18 => ?_) (fun c_18 => ?_)
    · skip
      have p1 : pIn y (σ.1 0) := c_18
      obtain ⟨j1, h1, e1⟩ := pIn_idx (by omega) p1
      subst e1
      have k1 : j1 < 2 ^ 31 := by omega
      refine zg_aload_n X dX7_grantPerson_27 rfl ?_
      refine zg_iload_n X dX7_grantPerson_28 rfl ?_
      refine zg_iload_n X dX7_grantPerson_29 rfl ?_
      refine zg_iconst X (v := 0) dX7_grantPerson_30 (by decide) ?_
      refine zg_callVi X (k_X7_gives l D ad T (uN σ 8 0) hI (nI j0) (nI j1) 0 (Or.inl rfl)) zFr.rf gX7_grantPerson_X7_gives rfl rfl rfl qv_X7_gives rfl ⟨Nat.le_of_ble_eq_true rfl, Nat.le_of_ble_eq_true rfl⟩ (q0 := 0) (ci := 9) rfl rfl rfl (Nat.le_of_ble_eq_true rfl) ⟨Nat.le_of_ble_eq_true rfl, Nat.le_of_ble_eq_true rfl⟩ dX7_grantPerson_31 (fun r w1 hz9 => ?_)
      obtain ⟨rfl, rfl⟩ := hz9
      refine zg_istore_n X dX7_grantPerson_34 (by decide) ?_
      refine zg_aload_n X dX7_grantPerson_35 rfl ?_
      refine rg_M_thrown X f7 l85 dX7_grantPerson_36 ?_
      refine zg_if_ne X dX7_grantPerson_39 (tgt := 56) (by decide) (fun c_39 => ?_) (fun c_39 => ?_)
      · skip
        have hm : mdP (uN σ 8 0) (nI j0) (nI j1) 0 := Classical.byContradiction fun q => c_39 (by rw [gvS_f q]; rfl)
        refine zg_w (w' := wM ad T (uN (uN σ 8 0) 8 2)) (by rw [gvS_t hm]) ?_
        refine zg_iload_n X dX7_grantPerson_56 rfl ?_
        exact zg_iret X hr dX7_grantPerson_57 (Nat.le_of_ble_eq_true rfl) (Nat.le_of_ble_eq_true rfl) (⟨uN (uN σ 8 0) 8 2, mR_f 1 (by rw [sp_grantPerson, if_pos (And.intro p0 p1), if_pos ((mdP_p (σ := σ) hI h1).mp hm)]) rfl rfl, rfl⟩)
      · skip
        have hm : ¬ mdP (uN σ 8 0) (nI j0) (nI j1) 0 := fun q => absurd c_39 (by rw [gvS_t q]; show ¬ (2 : Int32) = 0; decide)
        refine zg_w (w' := wM ad T (gNew (uN σ 8 0) (nI j0) (nI j1) (nI j1) (nI j1) 0)) (by rw [gvS_f hm]) ?_
        have hmd : ¬ (hasAct σ (nI j0) (nI j1) (-1) ∨ σ.1 3 = 24) := fun q => hm ((mdP_p (σ := σ) hI h1).mpr q)
        refine zg_aload_n X dX7_grantPerson_42 rfl ?_
        refine rg_M_denied X f7 l34 dX7_grantPerson_43 ?_
        refine zg_iload_n X dX7_grantPerson_46 rfl ?_
        refine zg_dup2 X dX7_grantPerson_47 rfl rfl ?_
        refine rlM_denied X (by omega) dX7_grantPerson_48 ?_
        refine zg_iconst X (v := 1) dX7_grantPerson_49 (by decide) ?_
        refine zg_iload_n X dX7_grantPerson_50 rfl ?_
        refine zg_ishl X dX7_grantPerson_51 ?_
        refine zg_iconst X (v := (-1)) dX7_grantPerson_52 (by decide) ?_
        refine zg_ixor X dX7_grantPerson_53 ?_
        refine zg_iand X dX7_grantPerson_54 ?_
        refine rsM_denied X (by omega) dX7_grantPerson_55 ?_
        skip
        skip
        refine zg_iload_n X dX7_grantPerson_56 rfl ?_
        exact zg_iret X hr dX7_grantPerson_57 (Nat.le_of_ble_eq_true rfl) (Nat.le_of_ble_eq_true rfl) (⟨uN (gNew (uA σ 8 (upd (σ.2.2 8) j0 (σ.2.2 8 j0 &&& (bt1 j1 ^^^ -1)))) (nI j0) (nI j1) (-1) (nI j1) 0) 8 0, mR_r (by rw [sp_grantPerson, if_pos (And.intro p0 p1), if_neg hmd, ix_nI k0, ix_nI k1, if_neg hm] <;> rfl), rfl⟩)
    · skip
      refine zg_aload_n X dX7_grantPerson_21 rfl ?_
      refine zg_iconst X (v := 1) dX7_grantPerson_22 (by decide) ?_
      refine zg_callVi X (k_X7_fails l D ad T (uN σ 8 0) 1) zFr.rf gX7_grantPerson_X7_fails rfl rfl rfl qv_X7_fails rfl ⟨Nat.le_of_ble_eq_true rfl, Nat.le_of_ble_eq_true rfl⟩ (q0 := 0) (ci := 9) rfl rfl rfl (Nat.le_of_ble_eq_true rfl) ⟨Nat.le_of_ble_eq_true rfl, Nat.le_of_ble_eq_true rfl⟩ dX7_grantPerson_23 (fun r w1 hz9 => ?_)
      obtain ⟨rfl, rfl⟩ := hz9
      exact zg_iret X hr dX7_grantPerson_26 (Nat.le_of_ble_eq_true rfl) (Nat.le_of_ble_eq_true rfl) (⟨uN (uN σ 8 0) 8 1, mR_f 0 (by rw [sp_grantPerson, if_neg (fun q => c_18 q.2)]) rfl rfl, rfl⟩)

set_option maxHeartbeats 4000000 in
set_option maxRecDepth 100000 in
theorem k_X7_grantGroup (l : Launch) (D : va_G) (ad : Nat → Nat) (T : Nat → ClassId) (σ : ZS) (hI : zI σ) (x y : Int32)  : zM l yX7_grantGroup wsX7_grantGroup ({ frames := 2, cells := 0, slots := 0, locals := 46 }) D (zT T) [.ref (ad 0), .int x, .int y] (wM ad T σ) 0 0 (qI D (zT T) (fun v0 w => ∃ t, mR [eNS, eIS] σ (sp_grantGroup σ x y) v0 t ∧ w = wM ad T t)) := by
  have hB0 := hI.bd
  obtain ⟨b0, b1, b2, b3, b4, b5⟩ := hI.bd
  refine zg_of (cc := cX7_grantGroup) (maxL := 3) (ret := (some .int)) (by decide) rfl (Nat.le_of_ble_eq_true rfl) (fun p e s m below meth c A hin hr X => ?_)
  have X : zC p s m _ meth c cX7_grantGroup 3 wsX7_grantGroup RX7 D (zT T) A := X
  have f7 : ∀ w ∈ u_ws RX7 TX7 37, w ∈ wsX7_grantGroup := by decide +kernel
  have l85 : Cond.fieldLink RX7 85 "RecertifyModel" "thrown" "I" ∈ wsX7_grantGroup := by decide +kernel
  refine zg_aload_n X dX7_grantGroup_0 rfl ?_
  refine zg_iconst X (v := 0) dX7_grantGroup_1 (by decide) ?_
  refine rp_M_thrown X f7 l85 dX7_grantGroup_2 ?_
  refine zg_aload_n X dX7_grantGroup_5 rfl ?_
  refine zg_iload_n X dX7_grantGroup_6 rfl ?_
  refine zg_callVi X (k_X7_isRight l D ad T (uN σ 8 0) hB0 _) zFr.rf gX7_grantGroup_X7_isRight rfl rfl rfl qv_X7_isRight rfl ⟨Nat.le_of_ble_eq_true rfl, Nat.le_of_ble_eq_true rfl⟩ (q0 := 0) (ci := 9) rfl rfl rfl (Nat.le_of_ble_eq_true rfl) ⟨Nat.le_of_ble_eq_true rfl, Nat.le_of_ble_eq_true rfl⟩ dX7_grantGroup_7 (fun r w1 hz9 => ?_)
  obtain ⟨rfl, rfl⟩ := hz9
  refine zg_if_eqb X dX7_grantGroup_10 (tgt := 31) (by decide) (fun c_10 => ?_) (fun c_10 => ?_)
  · skip
    refine zg_aload_n X dX7_grantGroup_31 rfl ?_
    refine zg_iconst X (v := 1) dX7_grantGroup_32 (by decide) ?_
    refine zg_callVi X (k_X7_fails l D ad T (uN σ 8 0) 1) zFr.rf gX7_grantGroup_X7_fails rfl rfl rfl qv_X7_fails rfl ⟨Nat.le_of_ble_eq_true rfl, Nat.le_of_ble_eq_true rfl⟩ (q0 := 0) (ci := 9) rfl rfl rfl (Nat.le_of_ble_eq_true rfl) ⟨Nat.le_of_ble_eq_true rfl, Nat.le_of_ble_eq_true rfl⟩ dX7_grantGroup_33 (fun r w1 hz9 => ?_)
    obtain ⟨rfl, rfl⟩ := hz9
    exact zg_iret X hr dX7_grantGroup_36 (Nat.le_of_ble_eq_true rfl) (Nat.le_of_ble_eq_true rfl) (⟨uN (uN σ 8 0) 8 1, mR_f 0 (by rw [sp_grantGroup, if_neg (fun q => c_10 q.1)]) rfl rfl, rfl⟩)
  · skip
    have p0 : pIn x (σ.1 2) := c_10
    obtain ⟨j0, h0, e0⟩ := pIn_idx (by omega) p0
    subst e0
    have k0 : j0 < 2 ^ 31 := by omega
    refine zg_aload_n X dX7_grantGroup_13 rfl ?_
    refine zg_iload_n X dX7_grantGroup_14 rfl ?_
    refine zg_callVi X (k_X7_isGroup l D ad T (uN σ 8 0) hB0 _) zFr.rf gX7_grantGroup_X7_isGroup rfl rfl rfl qv_X7_isGroup rfl ⟨Nat.le_of_ble_eq_true rfl, Nat.le_of_ble_eq_true rfl⟩ (q0 := 0) (ci := 9) rfl rfl rfl (Nat.le_of_ble_eq_true rfl) ⟨Nat.le_of_ble_eq_true rfl, Nat.le_of_ble_eq_true rfl⟩ dX7_grantGroup_15 (fun r w1 hz9 => ?_)
    obtain ⟨rfl, rfl⟩ := hz9
    refine zg_if_eqb X dX7_grantGroup_18 (tgt := 31) (by decide) (fun c_18 => ?_) (fun c_18 => ?_)
    · skip
      refine zg_aload_n X dX7_grantGroup_31 rfl ?_
      refine zg_iconst X (v := 1) dX7_grantGroup_32 (by decide) ?_
      refine zg_callVi X (k_X7_fails l D ad T (uN σ 8 0) 1) zFr.rf gX7_grantGroup_X7_fails rfl rfl rfl qv_X7_fails rfl ⟨Nat.le_of_ble_eq_true rfl, Nat.le_of_ble_eq_true rfl⟩ (q0 := 0) (ci := 9) rfl rfl rfl (Nat.le_of_ble_eq_true rfl) ⟨Nat.le_of_ble_eq_true rfl, Nat.le_of_ble_eq_true rfl⟩ dX7_grantGroup_33 (fun r w1 hz9 => ?_)
      obtain ⟨rfl, rfl⟩ := hz9
      exact zg_iret X hr dX7_grantGroup_36 (Nat.le_of_ble_eq_true rfl) (Nat.le_of_ble_eq_true rfl) (⟨uN (uN σ 8 0) 8 1, mR_f 0 (by rw [sp_grantGroup, if_neg (fun q => c_18 q.2)]) rfl rfl, rfl⟩)
    · skip
      have p1 : pIn y (σ.1 1) := c_18
      obtain ⟨j1, h1, e1⟩ := pIn_idx (by omega) p1
      subst e1
      have k1 : j1 < 2 ^ 31 := by omega
      refine zg_aload_n X dX7_grantGroup_21 rfl ?_
      refine zg_iload_n X dX7_grantGroup_22 rfl ?_
      refine zg_iload_n X dX7_grantGroup_23 rfl ?_
      refine zg_iconst X (v := 1) dX7_grantGroup_24 (by decide) ?_
      refine zg_callVi X (k_X7_gives l D ad T (uN σ 8 0) hI (nI j0) (nI j1) 1 (Or.inr rfl)) zFr.rf gX7_grantGroup_X7_gives rfl rfl rfl qv_X7_gives rfl ⟨Nat.le_of_ble_eq_true rfl, Nat.le_of_ble_eq_true rfl⟩ (q0 := 0) (ci := 9) rfl rfl rfl (Nat.le_of_ble_eq_true rfl) ⟨Nat.le_of_ble_eq_true rfl, Nat.le_of_ble_eq_true rfl⟩ dX7_grantGroup_25 (fun r w1 hz9 => ?_)
      obtain ⟨rfl, rfl⟩ := hz9
      refine zg_goto X dX7_grantGroup_28 (tgt := 36) (by decide) ?_
      exact zg_iret X hr dX7_grantGroup_36 (Nat.le_of_ble_eq_true rfl) (Nat.le_of_ble_eq_true rfl) (gg_leaf hI p0 p1 h1 k0 k1)

set_option maxHeartbeats 4000000 in
set_option maxRecDepth 100000 in
theorem k_X7_use (l : Launch) (D : va_G) (ad : Nat → Nat) (T : Nat → ClassId) (σ : ZS) (hI : zI σ) (x y : Int32)  : zM l yX7_use wsX7_use ({ frames := 6, cells := 0, slots := 0, locals := 136 }) D (zT T) [.ref (ad 0), .int x, .int y] (wM ad T σ) 0 0 (qI D (zT T) (fun v0 w => ∃ t, mR [eNS, eIS] σ (sp_use σ x y) v0 t ∧ w = wM ad T t)) := by
  have hB0 := hI.bd
  obtain ⟨b0, b1, b2, b3, b4, b5⟩ := hI.bd
  refine zg_of (cc := cX7_use) (maxL := 5) (ret := (some .int)) (by decide) rfl (Nat.le_of_ble_eq_true rfl) (fun p e s m below meth c A hin hr X => ?_)
  have X : zC p s m _ meth c cX7_use 5 wsX7_use RX7 D (zT T) A := X
  have f7 : ∀ w ∈ u_ws RX7 TX7 37, w ∈ wsX7_use := by decide +kernel
  have l105 : Cond.fieldLink RX7 105 "RecertifyModel" "grants" "I" ∈ wsX7_use := by decide +kernel
  have l134 : Cond.fieldLink RX7 134 "RecertifyModel" "day" "I" ∈ wsX7_use := by decide +kernel
  have l37 : Cond.fieldLink RX7 37 "RecertifyModel" "rightOf" "[I" ∈ wsX7_use := by decide +kernel
  have l43 : Cond.fieldLink RX7 43 "RecertifyModel" "used" "[I" ∈ wsX7_use := by decide +kernel
  have l56 : Cond.fieldLink RX7 56 "RecertifyModel" "states" "[C" ∈ wsX7_use := by decide +kernel
  refine zg_aload_n X dX7_use_0 rfl ?_
  refine zg_iload_n X dX7_use_1 rfl ?_
  refine zg_iload_n X dX7_use_2 rfl ?_
  refine zg_callVi X (k_X7_isNone l D ad T σ hB0 _ _) zFr.rf gX7_use_X7_isNone rfl rfl rfl qv_X7_isNone rfl ⟨Nat.le_of_ble_eq_true rfl, Nat.le_of_ble_eq_true rfl⟩ (q0 := 0) (ci := 9) rfl rfl rfl (Nat.le_of_ble_eq_true rfl) ⟨Nat.le_of_ble_eq_true rfl, Nat.le_of_ble_eq_true rfl⟩ dX7_use_3 (fun r w1 hz9 => ?_)
  obtain ⟨rfl, rfl⟩ := hz9
  refine zg_if_eqb X dX7_use_6 (tgt := 11) (by decide) (fun c_6 => ?_) (fun c_6 => ?_)
  · skip
    have pA : pIn x (σ.1 0) ∧ pIn y (σ.1 2) := Classical.not_not.mp c_6
    refine zg_w (w' := wM ad T (uN σ 8 0)) (by rw [if_pos pA]) ?_
    obtain ⟨p0, p1⟩ := pA
    obtain ⟨j0, h0, e0⟩ := pIn_idx (by omega) p0
    subst e0
    have k0 : j0 < 2 ^ 31 := by omega
    obtain ⟨j1, h1, e1⟩ := pIn_idx (by omega) p1
    subst e1
    have k1 : j1 < 2 ^ 31 := by omega
    refine zg_aload_n X dX7_use_11 rfl ?_
    refine zg_iload_n X dX7_use_12 rfl ?_
    refine zg_iload_n X dX7_use_13 rfl ?_
    refine zg_callVi X (k_X7_isHolding l D ad T (uN σ 8 0) hI j0 j1 (by omega) (by omega)) zFr.rf gX7_use_X7_isHolding rfl rfl rfl qv_X7_isHolding rfl ⟨Nat.le_of_ble_eq_true rfl, Nat.le_of_ble_eq_true rfl⟩ (q0 := 0) (ci := 9) rfl rfl rfl (Nat.le_of_ble_eq_true rfl) ⟨Nat.le_of_ble_eq_true rfl, Nat.le_of_ble_eq_true rfl⟩ dX7_use_14 (fun r w1 hz9 => ?_)
    obtain ⟨rfl, rfl⟩ := hz9
    refine zg_if_neb X dX7_use_17 (tgt := 26) (by decide) (fun c_17 => ?_) (fun c_17 => ?_)
    · skip
      have hh := c_17
      refine zg_iconst X (v := 0) dX7_use_26 (by decide) ?_
      refine zg_istore_n X dX7_use_27 (by decide) ?_
      refine zg_iconst X (v := 0) dX7_use_28 (by decide) ?_
      refine zg_istore X dX7_use_29 (by decide) ?_
      have LP31 : ∀ (fu : Nat) (i : Nat) (ct : Int32) (us : Nat → Int32), σ.1 3 + 1 ≤ i + fu → i ≤ σ.1 3 → (ct, us) = fN (useF σ j0 j1) (0, σ.2.2 13) i → zG p l e (headSpec wsX7_use ({ frames := 6, cells := 0, slots := 0, locals := 136 })).room s m [.ref (ad 0), .int (nI j0), .int (nI j1)].toArray below meth c D 5 A 0 0 (MQ below (qI D (zT T) (fun v0 w => ∃ t, mR [eNS, eIS] σ (sp_use σ (nI j0) (nI j1)) v0 t ∧ w = wM ad T t) A) [.ref (ad 0), .int (nI j0), .int (nI j1)].toArray s 0 0 A) (wM ad T (uN (uA σ 13 us) 8 0)) 31 [(0, .ref (ad 0)), (1, .int (nI j0)), (2, .int (nI j1)), (3, .int ct), (4, .int (nI i))] [] := by
        intro fu
        induction fu with
        | zero => intro i ct us hfu hii _; exact absurd hfu (by omega)
        | succ fu ih31 =>
          intro i ct us hfu hii hb
          refine zg_iload X dX7_use_31 rfl ?_
          refine zg_aload_n X dX7_use_33 rfl ?_
          refine rg_M_grants X f7 l105 dX7_use_34 ?_
          refine zg_icmpn_ge X dX7_use_37 (tgt := 99) (by decide) (a := i) (b := σ.1 3) (by omega) (by omega) (fun c_37 => ?_) (fun c_37 => ?_)
          · skip
            refine zg_iload_n X dX7_use_99 rfl ?_
            exact zg_iret X hr dX7_use_100 (Nat.le_of_ble_eq_true rfl) (Nat.le_of_ble_eq_true rfl) (⟨uN (uA σ 13 us) 8 0, mR_r (by rw [sp_use, if_pos (And.intro p0 p1), ix_nI k0, ix_nI k1, if_pos (show hB (holdI σ j1 (-1)) j0 from hh), useI, show σ.1 3 = i by omega, ← hb] <;> rfl), rfl⟩)
          · skip
            refine zg_aload_n X dX7_use_40 rfl ?_
            refine rg_M_states X f7 l56 dX7_use_41 ?_
            refine zg_iload X dX7_use_44 rfl ?_
            refine rlM_states X (by omega) dX7_use_46 ?_
            refine zg_bipush X (v := 120) dX7_use_47 (by decide) ?_
            refine zg_icmp_eq X dX7_use_49 (tgt := 93) (by decide) (fun c_49 => ?_) (fun c_49 => ?_)
            · skip
              refine zg_iinc1 X dX7_use_93 (by decide) rfl ?_
              refine zg_goto X dX7_use_96 (tgt := 31) (by decide) ?_
              skip
              exact zg_lv (by exact ⟨rfl, rfl, rfl, rfl, rfl, trivial⟩) (ih31 (i + 1) _ us (by omega) (by omega) (by rw [fN, ← hb, useF]; exact (if_neg (fun h => h.1.2 c_49)).symm))
            · skip
              refine zg_aload_n X dX7_use_52 rfl ?_
              refine rg_M_rightOf X f7 l37 dX7_use_53 ?_
              refine zg_iload X dX7_use_56 rfl ?_
              refine rlM_gRight X (by omega) dX7_use_58 ?_
              refine zg_iload_n X dX7_use_59 rfl ?_
              refine zg_icmp_ne X dX7_use_60 (tgt := 93) (by decide) (fun c_60 => ?_) (fun c_60 => ?_)
              · skip
                refine zg_iinc1 X dX7_use_93 (by decide) rfl ?_
                refine zg_goto X dX7_use_96 (tgt := 31) (by decide) ?_
                skip
                exact zg_lv (by exact ⟨rfl, rfl, rfl, rfl, rfl, trivial⟩) (ih31 (i + 1) _ us (by omega) (by omega) (by rw [fN, ← hb, useF]; exact (if_neg (fun h => c_60 h.1.1)).symm))
              · skip
                refine zg_aload_n X dX7_use_63 rfl ?_
                refine zg_iload X dX7_use_64 rfl ?_
                refine zg_callVi X (k_X7_reachedBy l D ad T (uN (uA σ 13 us) 8 0) (show zI (uN (uA σ 13 us) 8 0) from hI.u13 (f := us)) i (show i < σ.1 3 by omega)) zFr.rf gX7_use_X7_reachedBy rfl rfl rfl qv_X7_reachedBy rfl ⟨Nat.le_of_ble_eq_true rfl, Nat.le_of_ble_eq_true rfl⟩ (q0 := 0) (ci := 9) rfl rfl rfl (Nat.le_of_ble_eq_true rfl) ⟨Nat.le_of_ble_eq_true rfl, Nat.le_of_ble_eq_true rfl⟩ dX7_use_66 (fun r w1 hz9 => ?_)
                obtain ⟨rfl, rfl⟩ := hz9
                refine zg_top (v' := reachI σ i) rfl ?_
                refine zg_iload_n X dX7_use_69 rfl ?_
                refine zg_callSi X (k_X7_has l D ad T (uN (uA σ 13 us) 8 0) _ j0 (by omega)) zFr.rf gX7_use_X7_has rfl rfl rfl qd_X7_has rfl ⟨Nat.le_of_ble_eq_true rfl, Nat.le_of_ble_eq_true rfl⟩ rfl (Nat.le_of_ble_eq_true rfl) ⟨Nat.le_of_ble_eq_true rfl, Nat.le_of_ble_eq_true rfl⟩ dX7_use_70 (fun r w1 hz9 => ?_)
                obtain ⟨rfl, rfl⟩ := hz9
                refine zg_if_neb X dX7_use_73 (tgt := 79) (by decide) (fun c_73 => ?_) (fun c_73 => ?_)
                · skip
                  refine zg_aload_n X dX7_use_79 rfl ?_
                  refine rg_M_used X f7 l43 dX7_use_80 ?_
                  refine zg_iload X dX7_use_83 rfl ?_
                  refine zg_aload_n X dX7_use_85 rfl ?_
                  refine rg_M_day X f7 l134 dX7_use_86 ?_
                  refine rsM_used X (by omega) dX7_use_89 ?_
                  refine zg_iinc X dX7_use_90 (by decide) rfl (show _ + Int32.ofInt 1 = _ + 1 from rfl) ?_
                  refine zg_iinc1 X dX7_use_93 (by decide) rfl ?_
                  refine zg_goto X dX7_use_96 (tgt := 31) (by decide) ?_
                  refine zg_w (w' := wM ad T (uN (uA σ 13 (upd us i (σ.2.1 0))) 8 0)) rfl ?_
                  exact zg_lv (by exact ⟨rfl, rfl, rfl, rfl, rfl, trivial⟩) (ih31 (i + 1) _ (upd us i (σ.2.1 0)) (by omega) (by omega) (by rw [fN, ← hb, useF]; exact (if_pos ⟨⟨c_60, c_49⟩, c_73⟩).symm))
                · skip
                  refine zg_goto X dX7_use_76 (tgt := 93) (by decide) ?_
                  refine zg_iinc1 X dX7_use_93 (by decide) rfl ?_
                  refine zg_goto X dX7_use_96 (tgt := 31) (by decide) ?_
                  skip
                  exact zg_lv (by exact ⟨rfl, rfl, rfl, rfl, rfl, trivial⟩) (ih31 (i + 1) _ us (by omega) (by omega) (by rw [fN, ← hb, useF]; exact (if_neg (fun h => c_73 h.2)).symm))
      refine zg_w (w' := wM ad T (uN (uA σ 13 (σ.2.2 13)) 8 0)) rfl ?_
      exact zg_lv (by exact ⟨rfl, rfl, rfl, rfl, rfl, trivial⟩) (LP31 (σ.1 3 + 1) 0 _ (σ.2.2 13) (by omega) (by omega) rfl)
    · skip
      refine zg_aload_n X dX7_use_20 rfl ?_
      refine zg_iconst X (v := 2) dX7_use_21 (by decide) ?_
      refine zg_callVi X (k_X7_fails l D ad T (uN σ 8 0) 2) zFr.rf gX7_use_X7_fails rfl rfl rfl qv_X7_fails rfl ⟨Nat.le_of_ble_eq_true rfl, Nat.le_of_ble_eq_true rfl⟩ (q0 := 0) (ci := 9) rfl rfl rfl (Nat.le_of_ble_eq_true rfl) ⟨Nat.le_of_ble_eq_true rfl, Nat.le_of_ble_eq_true rfl⟩ dX7_use_22 (fun r w1 hz9 => ?_)
      obtain ⟨rfl, rfl⟩ := hz9
      exact zg_iret X hr dX7_use_25 (Nat.le_of_ble_eq_true rfl) (Nat.le_of_ble_eq_true rfl) (⟨uN (uN σ 8 0) 8 2, mR_f 1 (by rw [sp_use, if_pos (And.intro p0 p1), ix_nI k0, ix_nI k1, if_neg (show ¬ hB (holdI σ j1 (-1)) j0 from c_17)]) rfl rfl, rfl⟩)
  · skip
    refine zg_w (w' := wM ad T (uN σ 8 1)) (by rw [if_neg c_6]) ?_
    refine zg_iconst X (v := 0) dX7_use_9 (by decide) ?_
    exact zg_iret X hr dX7_use_10 (Nat.le_of_ble_eq_true rfl) (Nat.le_of_ble_eq_true rfl) (⟨uN σ 8 1, mR_f1 0 (by rw [sp_use, if_neg c_6]) rfl rfl, rfl⟩)
