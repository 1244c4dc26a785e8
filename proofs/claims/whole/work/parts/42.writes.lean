/-! rows of methods, laid by a program of mine (wip/whole/walk.py) out of the bytecode and annotations -/
theorem qd_X6_addGroup : yX6_addGroup.cls ≠ "java/lang/invoke/MethodHandle" ∧ yX6_addGroup.cls ≠ "java/lang/invoke/VarHandle" ∧ (parseMethodDescriptor yX6_addGroup.desc).map (fun d => d.parameters.length) = some 1 := by decide +kernel
theorem qv_X6_addGroup : yX6_addGroup.cls = RX6 ∧ yX6_addGroup.cls ≠ "java/lang/invoke/MethodHandle" ∧ yX6_addGroup.cls ≠ "java/lang/invoke/VarHandle" ∧ (parseMethodDescriptor yX6_addGroup.desc).map (fun d => d.parameters.length) = some 1 := ⟨rfl, qd_X6_addGroup⟩
theorem qd_X6_addMember : yX6_addMember.cls ≠ "java/lang/invoke/MethodHandle" ∧ yX6_addMember.cls ≠ "java/lang/invoke/VarHandle" ∧ (parseMethodDescriptor yX6_addMember.desc).map (fun d => d.parameters.length) = some 2 := by decide +kernel
theorem qv_X6_addMember : yX6_addMember.cls = RX6 ∧ yX6_addMember.cls ≠ "java/lang/invoke/MethodHandle" ∧ yX6_addMember.cls ≠ "java/lang/invoke/VarHandle" ∧ (parseMethodDescriptor yX6_addMember.desc).map (fun d => d.parameters.length) = some 2 := ⟨rfl, qd_X6_addMember⟩
theorem qd_X6_addPerson : yX6_addPerson.cls ≠ "java/lang/invoke/MethodHandle" ∧ yX6_addPerson.cls ≠ "java/lang/invoke/VarHandle" ∧ (parseMethodDescriptor yX6_addPerson.desc).map (fun d => d.parameters.length) = some 2 := by decide +kernel
theorem qv_X6_addPerson : yX6_addPerson.cls = RX6 ∧ yX6_addPerson.cls ≠ "java/lang/invoke/MethodHandle" ∧ yX6_addPerson.cls ≠ "java/lang/invoke/VarHandle" ∧ (parseMethodDescriptor yX6_addPerson.desc).map (fun d => d.parameters.length) = some 2 := ⟨rfl, qd_X6_addPerson⟩
theorem qd_X6_addRight : yX6_addRight.cls ≠ "java/lang/invoke/MethodHandle" ∧ yX6_addRight.cls ≠ "java/lang/invoke/VarHandle" ∧ (parseMethodDescriptor yX6_addRight.desc).map (fun d => d.parameters.length) = some 3 := by decide +kernel
theorem qv_X6_addRight : yX6_addRight.cls = RX6 ∧ yX6_addRight.cls ≠ "java/lang/invoke/MethodHandle" ∧ yX6_addRight.cls ≠ "java/lang/invoke/VarHandle" ∧ (parseMethodDescriptor yX6_addRight.desc).map (fun d => d.parameters.length) = some 3 := ⟨rfl, qd_X6_addRight⟩
theorem qd_X6_grantGroup : yX6_grantGroup.cls ≠ "java/lang/invoke/MethodHandle" ∧ yX6_grantGroup.cls ≠ "java/lang/invoke/VarHandle" ∧ (parseMethodDescriptor yX6_grantGroup.desc).map (fun d => d.parameters.length) = some 2 := by decide +kernel
theorem qv_X6_grantGroup : yX6_grantGroup.cls = RX6 ∧ yX6_grantGroup.cls ≠ "java/lang/invoke/MethodHandle" ∧ yX6_grantGroup.cls ≠ "java/lang/invoke/VarHandle" ∧ (parseMethodDescriptor yX6_grantGroup.desc).map (fun d => d.parameters.length) = some 2 := ⟨rfl, qd_X6_grantGroup⟩
theorem qd_X6_grantPerson : yX6_grantPerson.cls ≠ "java/lang/invoke/MethodHandle" ∧ yX6_grantPerson.cls ≠ "java/lang/invoke/VarHandle" ∧ (parseMethodDescriptor yX6_grantPerson.desc).map (fun d => d.parameters.length) = some 2 := by decide +kernel
theorem qv_X6_grantPerson : yX6_grantPerson.cls = RX6 ∧ yX6_grantPerson.cls ≠ "java/lang/invoke/MethodHandle" ∧ yX6_grantPerson.cls ≠ "java/lang/invoke/VarHandle" ∧ (parseMethodDescriptor yX6_grantPerson.desc).map (fun d => d.parameters.length) = some 2 := ⟨rfl, qd_X6_grantPerson⟩
theorem qd_X6_nest : yX6_nest.cls ≠ "java/lang/invoke/MethodHandle" ∧ yX6_nest.cls ≠ "java/lang/invoke/VarHandle" ∧ (parseMethodDescriptor yX6_nest.desc).map (fun d => d.parameters.length) = some 2 := by decide +kernel
theorem qv_X6_nest : yX6_nest.cls = RX6 ∧ yX6_nest.cls ≠ "java/lang/invoke/MethodHandle" ∧ yX6_nest.cls ≠ "java/lang/invoke/VarHandle" ∧ (parseMethodDescriptor yX6_nest.desc).map (fun d => d.parameters.length) = some 2 := ⟨rfl, qd_X6_nest⟩
theorem qd_X6_openCampaign : yX6_openCampaign.cls ≠ "java/lang/invoke/MethodHandle" ∧ yX6_openCampaign.cls ≠ "java/lang/invoke/VarHandle" ∧ (parseMethodDescriptor yX6_openCampaign.desc).map (fun d => d.parameters.length) = some 1 := by decide +kernel
theorem qv_X6_openCampaign : yX6_openCampaign.cls = RX6 ∧ yX6_openCampaign.cls ≠ "java/lang/invoke/MethodHandle" ∧ yX6_openCampaign.cls ≠ "java/lang/invoke/VarHandle" ∧ (parseMethodDescriptor yX6_openCampaign.desc).map (fun d => d.parameters.length) = some 1 := ⟨rfl, qd_X6_openCampaign⟩
theorem qd_X6_removeMember : yX6_removeMember.cls ≠ "java/lang/invoke/MethodHandle" ∧ yX6_removeMember.cls ≠ "java/lang/invoke/VarHandle" ∧ (parseMethodDescriptor yX6_removeMember.desc).map (fun d => d.parameters.length) = some 2 := by decide +kernel
theorem qv_X6_removeMember : yX6_removeMember.cls = RX6 ∧ yX6_removeMember.cls ≠ "java/lang/invoke/MethodHandle" ∧ yX6_removeMember.cls ≠ "java/lang/invoke/VarHandle" ∧ (parseMethodDescriptor yX6_removeMember.desc).map (fun d => d.parameters.length) = some 2 := ⟨rfl, qd_X6_removeMember⟩
theorem qd_X6_setAbsent : yX6_setAbsent.cls ≠ "java/lang/invoke/MethodHandle" ∧ yX6_setAbsent.cls ≠ "java/lang/invoke/VarHandle" ∧ (parseMethodDescriptor yX6_setAbsent.desc).map (fun d => d.parameters.length) = some 2 := by decide +kernel
theorem qv_X6_setAbsent : yX6_setAbsent.cls = RX6 ∧ yX6_setAbsent.cls ≠ "java/lang/invoke/MethodHandle" ∧ yX6_setAbsent.cls ≠ "java/lang/invoke/VarHandle" ∧ (parseMethodDescriptor yX6_setAbsent.desc).map (fun d => d.parameters.length) = some 2 := ⟨rfl, qd_X6_setAbsent⟩
theorem qd_X6_setGrace : yX6_setGrace.cls ≠ "java/lang/invoke/MethodHandle" ∧ yX6_setGrace.cls ≠ "java/lang/invoke/VarHandle" ∧ (parseMethodDescriptor yX6_setGrace.desc).map (fun d => d.parameters.length) = some 1 := by decide +kernel
theorem qv_X6_setGrace : yX6_setGrace.cls = RX6 ∧ yX6_setGrace.cls ≠ "java/lang/invoke/MethodHandle" ∧ yX6_setGrace.cls ≠ "java/lang/invoke/VarHandle" ∧ (parseMethodDescriptor yX6_setGrace.desc).map (fun d => d.parameters.length) = some 1 := ⟨rfl, qd_X6_setGrace⟩
theorem qd_X6_setLimit : yX6_setLimit.cls ≠ "java/lang/invoke/MethodHandle" ∧ yX6_setLimit.cls ≠ "java/lang/invoke/VarHandle" ∧ (parseMethodDescriptor yX6_setLimit.desc).map (fun d => d.parameters.length) = some 1 := by decide +kernel
theorem qv_X6_setLimit : yX6_setLimit.cls = RX6 ∧ yX6_setLimit.cls ≠ "java/lang/invoke/MethodHandle" ∧ yX6_setLimit.cls ≠ "java/lang/invoke/VarHandle" ∧ (parseMethodDescriptor yX6_setLimit.desc).map (fun d => d.parameters.length) = some 1 := ⟨rfl, qd_X6_setLimit⟩
theorem qd_X6_setSubstitute : yX6_setSubstitute.cls ≠ "java/lang/invoke/MethodHandle" ∧ yX6_setSubstitute.cls ≠ "java/lang/invoke/VarHandle" ∧ (parseMethodDescriptor yX6_setSubstitute.desc).map (fun d => d.parameters.length) = some 2 := by decide +kernel
theorem qv_X6_setSubstitute : yX6_setSubstitute.cls = RX6 ∧ yX6_setSubstitute.cls ≠ "java/lang/invoke/MethodHandle" ∧ yX6_setSubstitute.cls ≠ "java/lang/invoke/VarHandle" ∧ (parseMethodDescriptor yX6_setSubstitute.desc).map (fun d => d.parameters.length) = some 2 := ⟨rfl, qd_X6_setSubstitute⟩
theorem qd_X6_use : yX6_use.cls ≠ "java/lang/invoke/MethodHandle" ∧ yX6_use.cls ≠ "java/lang/invoke/VarHandle" ∧ (parseMethodDescriptor yX6_use.desc).map (fun d => d.parameters.length) = some 2 := by decide +kernel
theorem qv_X6_use : yX6_use.cls = RX6 ∧ yX6_use.cls ≠ "java/lang/invoke/MethodHandle" ∧ yX6_use.cls ≠ "java/lang/invoke/VarHandle" ∧ (parseMethodDescriptor yX6_use.desc).map (fun d => d.parameters.length) = some 2 := ⟨rfl, qd_X6_use⟩
theorem tq_X6_130 : Bundle.fit "java/lang/UnsupportedOperationException" = true ∧ (∀ n ∈ (["java/lang/RuntimeException", "java/lang/Exception"] : List String), Bundle.fit n = true) ∧ (∀ w ∈ (vx_atS RX6 130 "java/lang/UnsupportedOperationException" ["java/lang/RuntimeException", "java/lang/Exception"]).filter (fun w => !goodWord w), w ∈ (Cond.castable "java/lang/UnsupportedOperationException" "java/lang/UnsupportedOperationException" :: zDecl.map (fun q => Cond.declares q) : List Cond)) ∧ (∀ w ∈ Cond.classLink RX6 126 "java/lang/UnsupportedOperationException" :: Cond.initialized "java/lang/UnsupportedOperationException" :: vx_atS RX6 130 "java/lang/UnsupportedOperationException" ["java/lang/RuntimeException", "java/lang/Exception"], vx_ot w = true) := by decide +kernel
theorem wC_25 {ad : Nat → Nat} {T : Nat → ClassId} {σ : ZS} {f : Nat → Int32} : wC ad T (uA σ 25 f) = wC ad T σ := rfl
theorem wC_26 {ad : Nat → Nat} {T : Nat → ClassId} {σ : ZS} {f : Nat → Int32} : wC ad T (uA σ 26 f) = wC ad T σ := rfl
theorem wC_n7 {ad : Nat → Nat} {T : Nat → ClassId} {σ : ZS} {v : Int32} : wC ad T (uN σ 7 v) = wC ad T σ := rfl
theorem wC_n8 {ad : Nat → Nat} {T : Nat → ClassId} {σ : ZS} {v : Int32} : wC ad T (uN σ 8 v) = wC ad T σ := rfl
theorem wC_gNew {ad : Nat → Nat} {T : Nat → ClassId} {σ : ZS} {r pe gr tg k : Int32} : wC ad T (gNew σ r pe gr tg k) = wC ad T (gAdd σ r pe gr (σ.2.1 0)) := Eq.trans wC_26 wC_25
set_option maxHeartbeats 4000000 in
set_option maxRecDepth 100000 in
theorem k_X6_addPerson (l : Launch) (hfl : l.stackTraces = false) (D : va_G) (ad : Nat → Nat) (T : Nat → ClassId) (σ : ZS) (hI : zI σ) (d m : Int32)  : zMX l yX6_addPerson wsX6_addPerson ({ frames := 7, cells := 2, slots := 12, locals := 111 }) D (zT T) [.ref (ad 0), .int d, .int m] (wC ad T σ) 2 12 (qI D (zT T) (fun v w => ∃ s, sp_addPerson σ d m = .inr (v, s) ∧ w = wC ad T s)) (xE D (zT T) (fun E w => sp_addPerson σ d m = .inl E ∧ w = wC ad T σ)) := by
  have hB0 := hI.bd
  obtain ⟨b0, b1, b2, b3, b4, b5⟩ := hI.bd
  refine zg_ofx (cc := cX6_addPerson) (maxL := 3) (ret := (some .int)) (by decide) rfl (Nat.le_of_ble_eq_true rfl) (fun p e s m below meth c A hno hr X => ?_)
  have X : zC p s m _ meth c cX6_addPerson 3 wsX6_addPerson RX6 D (zT T) A := X
  have f6 : ∀ w ∈ u_ws RX6 TX6 9, w ∈ wsX6_addPerson := by decide +kernel
  have f4 : ∀ w ∈ u_ws RX4 TX4 5, w ∈ wsX6_addPerson := by decide +kernel
  have l10 : Cond.fieldLink RX6 10 "Recertify" "people" "LRecertify$People;" ∈ wsX6_addPerson := by decide +kernel
  have l61 : Cond.classLink RX6 61 "java/lang/IllegalArgumentException" ∈ wsX6_addPerson := by decide +kernel
  have l72 : Cond.fieldLink RX6 72 "Recertify$People" "count" "I" ∈ wsX6_addPerson := by decide +kernel
  have l75 : Cond.classLink RX6 75 "java/lang/IllegalStateException" ∈ wsX6_addPerson := by decide +kernel
  refine zg_iload_n X dX6_addPerson_0 rfl ?_
  refine zg_if_lt X dX6_addPerson_1 (tgt := 9) (by decide) (fun c_1 => ?_) (fun c_1 => ?_)
  · skip
    exact zg_throw X hfl (text := "the department is out of range") hno tq_X6_65.1 tq_X6_65.2.1 l61 (by decide +kernel) (by decide +kernel) (fun w h => by have h : w ∈ (vx_atS RX6 65 "java/lang/IllegalArgumentException" ["java/lang/RuntimeException", "java/lang/Exception"]).filter goodWord := h; revert w; decide +kernel) tq_X6_65.2.2.1 (by decide +kernel) tq_X6_65.2.2.2 dX6_addPerson_9 dX6_addPerson_12 dX6_addPerson_13 dX6_addPerson_15 dX6_addPerson_18 ⟨Nat.le_of_ble_eq_true rfl, Nat.le_of_ble_eq_true rfl, Nat.le_of_ble_eq_true rfl, Nat.le_of_ble_eq_true rfl⟩ ⟨Nat.le_of_ble_eq_true rfl, Nat.le_of_ble_eq_true rfl⟩ (⟨by rw [sp_addPerson, if_neg (fun q => zi_le.mp q.1 c_1)], rfl⟩)
  · skip
    refine zg_iload_n X dX6_addPerson_4 rfl ?_
    refine zg_iconst X (v := 3) dX6_addPerson_5 (by decide) ?_
    refine zg_icmp_le X dX6_addPerson_6 (tgt := 19) (by decide) (fun c_6 => ?_) (fun c_6 => ?_)
    · skip
      refine zg_iload_n X dX6_addPerson_19 rfl ?_
      refine zg_iconst X (v := (-1)) dX6_addPerson_20 (by decide) ?_
      refine zg_icmp_eq X dX6_addPerson_21 (tgt := 29) (by decide) (fun c_21 => ?_) (fun c_21 => ?_)
      · skip
        refine zg_aload_n X dX6_addPerson_29 rfl ?_
        refine rg_R_people X f6 l10 dX6_addPerson_30 ?_
        refine rg_People_count X f4 l72 dX6_addPerson_33 ?_
        refine zg_bipush X (v := 10) dX6_addPerson_36 (by decide) ?_
        refine zg_icmpn_lt X dX6_addPerson_38 (tgt := 51) (by decide) (a := σ.1 0) (b := 10) (by omega) (by omega) (fun c_38 => ?_) (fun c_38 => ?_)
        · skip
          refine zg_aload_n X dX6_addPerson_51 rfl ?_
          refine rg_R_people X f6 l10 dX6_addPerson_52 ?_
          refine zg_iload_n X dX6_addPerson_55 rfl ?_
          refine zg_iload_n X dX6_addPerson_56 rfl ?_
          refine zg_callVi X (k_X4_add l D ad T _ _ _ (by omega)) zFr.rf gX6_addPerson_X4_add rfl rfl rfl qv_X4_add rfl ⟨Nat.le_of_ble_eq_true rfl, Nat.le_of_ble_eq_true rfl⟩ (q0 := 1) (ci := 6) rfl rfl rfl (Nat.le_of_ble_eq_true rfl) ⟨Nat.le_of_ble_eq_true rfl, Nat.le_of_ble_eq_true rfl⟩ dX6_addPerson_57 (fun r w1 hz9 => ?_)
          obtain ⟨rfl, rfl⟩ := hz9
          exact zg_x (zg_iret X hr dX6_addPerson_60 (Nat.le_of_ble_eq_true rfl) (Nat.le_of_ble_eq_true rfl) (⟨_, by rw [sp_addPerson, if_pos (And.intro (zi_le.mpr c_1) c_6), if_pos (by first | exact Or.inl c_21 | exact Or.inr p0), if_neg (show ¬ σ.1 0 = 10 by omega)] <;> rfl, rfl⟩))
        · skip
          exact zg_throw X hfl (text := "there is no room for another person") hno tq_X6_79.1 tq_X6_79.2.1 l75 (by decide +kernel) (by decide +kernel) (fun w h => by have h : w ∈ (vx_atS RX6 79 "java/lang/IllegalStateException" ["java/lang/RuntimeException", "java/lang/Exception"]).filter goodWord := h; revert w; decide +kernel) tq_X6_79.2.2.1 (by decide +kernel) tq_X6_79.2.2.2 dX6_addPerson_41 dX6_addPerson_44 dX6_addPerson_45 dX6_addPerson_47 dX6_addPerson_50 ⟨Nat.le_of_ble_eq_true rfl, Nat.le_of_ble_eq_true rfl, Nat.le_of_ble_eq_true rfl, Nat.le_of_ble_eq_true rfl⟩ ⟨Nat.le_of_ble_eq_true rfl, Nat.le_of_ble_eq_true rfl⟩ (⟨by rw [sp_addPerson, if_pos (And.intro (zi_le.mpr c_1) c_6), if_pos (by first | exact Or.inl c_21 | exact Or.inr p0), if_pos (show σ.1 0 = 10 by omega)], rfl⟩)
      · skip
        refine zg_aload_n X dX6_addPerson_24 rfl ?_
        refine zg_iload_n X dX6_addPerson_25 rfl ?_
        refine zg_xcallVv X hno (k_X6_requirePerson l hfl D ad T _ hB0 _) zFr.rf gX6_addPerson_X6_requirePerson rfl rfl rfl qv_X6_requirePerson rfl ⟨Nat.le_of_ble_eq_true rfl, Nat.le_of_ble_eq_true rfl⟩ (q0 := 0) (ci := 8) rfl rfl rfl (Nat.le_of_ble_eq_true rfl) ⟨Nat.le_of_ble_eq_true rfl, Nat.le_of_ble_eq_true rfl⟩ ⟨Nat.le_of_ble_eq_true rfl, Nat.le_of_ble_eq_true rfl⟩ dX6_addPerson_26 (fun E w1 h => ⟨by rw [h.1.1, sp_addPerson, if_pos (And.intro (zi_le.mpr c_1) c_6), if_neg (fun q => q.elim c_21 h.1.2)], h.2⟩) (fun w1 hz9 => ?_)
        obtain ⟨⟨j0, h0, e0⟩, rfl⟩ := hz9
        subst e0
        have k0 : j0 < 2 ^ 31 := by omega
        have p0 : pIn (nI j0) (σ.1 0) := pIn_nI (by omega) h0
        refine zg_aload_n X dX6_addPerson_29 rfl ?_
        refine rg_R_people X f6 l10 dX6_addPerson_30 ?_
        refine rg_People_count X f4 l72 dX6_addPerson_33 ?_
        refine zg_bipush X (v := 10) dX6_addPerson_36 (by decide) ?_
        refine zg_icmpn_lt X dX6_addPerson_38 (tgt := 51) (by decide) (a := σ.1 0) (b := 10) (by omega) (by omega) (fun c_38 => ?_) (fun c_38 => ?_)
        · skip
          refine zg_aload_n X dX6_addPerson_51 rfl ?_
          refine rg_R_people X f6 l10 dX6_addPerson_52 ?_
          refine zg_iload_n X dX6_addPerson_55 rfl ?_
          refine zg_iload_n X dX6_addPerson_56 rfl ?_
          refine zg_callVi X (k_X4_add l D ad T _ _ _ (by omega)) zFr.rf gX6_addPerson_X4_add rfl rfl rfl qv_X4_add rfl ⟨Nat.le_of_ble_eq_true rfl, Nat.le_of_ble_eq_true rfl⟩ (q0 := 1) (ci := 6) rfl rfl rfl (Nat.le_of_ble_eq_true rfl) ⟨Nat.le_of_ble_eq_true rfl, Nat.le_of_ble_eq_true rfl⟩ dX6_addPerson_57 (fun r w1 hz9 => ?_)
          obtain ⟨rfl, rfl⟩ := hz9
          exact zg_x (zg_iret X hr dX6_addPerson_60 (Nat.le_of_ble_eq_true rfl) (Nat.le_of_ble_eq_true rfl) (⟨_, by rw [sp_addPerson, if_pos (And.intro (zi_le.mpr c_1) c_6), if_pos (by first | exact Or.inl c_21 | exact Or.inr p0), if_neg (show ¬ σ.1 0 = 10 by omega)] <;> rfl, rfl⟩))
        · skip
          exact zg_throw X hfl (text := "there is no room for another person") hno tq_X6_79.1 tq_X6_79.2.1 l75 (by decide +kernel) (by decide +kernel) (fun w h => by have h : w ∈ (vx_atS RX6 79 "java/lang/IllegalStateException" ["java/lang/RuntimeException", "java/lang/Exception"]).filter goodWord := h; revert w; decide +kernel) tq_X6_79.2.2.1 (by decide +kernel) tq_X6_79.2.2.2 dX6_addPerson_41 dX6_addPerson_44 dX6_addPerson_45 dX6_addPerson_47 dX6_addPerson_50 ⟨Nat.le_of_ble_eq_true rfl, Nat.le_of_ble_eq_true rfl, Nat.le_of_ble_eq_true rfl, Nat.le_of_ble_eq_true rfl⟩ ⟨Nat.le_of_ble_eq_true rfl, Nat.le_of_ble_eq_true rfl⟩ (⟨by rw [sp_addPerson, if_pos (And.intro (zi_le.mpr c_1) c_6), if_pos (by first | exact Or.inl c_21 | exact Or.inr p0), if_pos (show σ.1 0 = 10 by omega)], rfl⟩)
    · skip
      exact zg_throw X hfl (text := "the department is out of range") hno tq_X6_65.1 tq_X6_65.2.1 l61 (by decide +kernel) (by decide +kernel) (fun w h => by have h : w ∈ (vx_atS RX6 65 "java/lang/IllegalArgumentException" ["java/lang/RuntimeException", "java/lang/Exception"]).filter goodWord := h; revert w; decide +kernel) tq_X6_65.2.2.1 (by decide +kernel) tq_X6_65.2.2.2 dX6_addPerson_9 dX6_addPerson_12 dX6_addPerson_13 dX6_addPerson_15 dX6_addPerson_18 ⟨Nat.le_of_ble_eq_true rfl, Nat.le_of_ble_eq_true rfl, Nat.le_of_ble_eq_true rfl, Nat.le_of_ble_eq_true rfl⟩ ⟨Nat.le_of_ble_eq_true rfl, Nat.le_of_ble_eq_true rfl⟩ (⟨by rw [sp_addPerson, if_neg (fun q => c_6 q.2)], rfl⟩)

set_option maxHeartbeats 4000000 in
set_option maxRecDepth 100000 in
theorem k_X6_setAbsent (l : Launch) (hfl : l.stackTraces = false) (D : va_G) (ad : Nat → Nat) (T : Nat → ClassId) (σ : ZS) (hI : zI σ) (x b : Int32) (hb : b = 0 ∨ b = 1) (hK : zK σ) : zMX l yX6_setAbsent wsX6_setAbsent ({ frames := 7, cells := 1, slots := 6, locals := 111 }) D (zT T) [.ref (ad 0), .int x, .int b] (wC ad T σ) 1 6 (qI D (zT T) (fun v w => ∃ s, sp_setAbsent σ x b = .inr (v, s) ∧ w = wC ad T s)) (xE D (zT T) (fun E w => sp_setAbsent σ x b = .inl E ∧ w = wC ad T σ)) := by
  have hB0 := hI.bd
  obtain ⟨b0, b1, b2, b3, b4, b5⟩ := hI.bd
  refine zg_ofx (cc := cX6_setAbsent) (maxL := 4) (ret := (some .boolean)) (by decide) rfl (Nat.le_of_ble_eq_true rfl) (fun p e s m below meth c A hno hr X => ?_)
  have X : zC p s m _ meth c cX6_setAbsent 4 wsX6_setAbsent RX6 D (zT T) A := X
  have f6 : ∀ w ∈ u_ws RX6 TX6 9, w ∈ wsX6_setAbsent := by decide +kernel
  have f4 : ∀ w ∈ u_ws RX4 TX4 5, w ∈ wsX6_setAbsent := by decide +kernel
  have l10 : Cond.fieldLink RX6 10 "Recertify" "people" "LRecertify$People;" ∈ wsX6_setAbsent := by decide +kernel
  have l84 : Cond.fieldLink RX6 84 "Recertify$People" "absent" "[Z" ∈ wsX6_setAbsent := by decide +kernel
  refine zg_aload_n X dX6_setAbsent_0 rfl ?_
  refine zg_iload_n X dX6_setAbsent_1 rfl ?_
  refine zg_xcallVv X hno (k_X6_requirePerson l hfl D ad T _ hB0 _) zFr.rf gX6_setAbsent_X6_requirePerson rfl rfl rfl qv_X6_requirePerson rfl ⟨Nat.le_of_ble_eq_true rfl, Nat.le_of_ble_eq_true rfl⟩ (q0 := 0) (ci := 8) rfl rfl rfl (Nat.le_of_ble_eq_true rfl) ⟨Nat.le_of_ble_eq_true rfl, Nat.le_of_ble_eq_true rfl⟩ ⟨Nat.le_of_ble_eq_true rfl, Nat.le_of_ble_eq_true rfl⟩ dX6_setAbsent_2 (fun E w1 h => ⟨by rw [h.1.1, sp_setAbsent, if_neg h.1.2], h.2⟩) (fun w1 hz9 => ?_)
  obtain ⟨⟨j0, h0, e0⟩, rfl⟩ := hz9
  subst e0
  have k0 : j0 < 2 ^ 31 := by omega
  have p0 : pIn (nI j0) (σ.1 0) := pIn_nI (by omega) h0
  refine zg_aload_n X dX6_setAbsent_5 rfl ?_
  refine rg_R_people X f6 l10 dX6_setAbsent_6 ?_
  refine rg_People_absent X f4 l84 dX6_setAbsent_9 ?_
  refine zg_iload_n X dX6_setAbsent_12 rfl ?_
  refine rlC_absent X (by omega) dX6_setAbsent_13 ?_
  refine zg_istore_n X dX6_setAbsent_14 (by decide) ?_
  refine zg_aload_n X dX6_setAbsent_15 rfl ?_
  refine rg_R_people X f6 l10 dX6_setAbsent_16 ?_
  refine rg_People_absent X f4 l84 dX6_setAbsent_19 ?_
  refine zg_iload_n X dX6_setAbsent_22 rfl ?_
  refine zg_iload_n X dX6_setAbsent_23 rfl ?_
  refine rsC_absent X (by omega) (by rcases hb with rfl | rfl <;> rfl) dX6_setAbsent_24 ?_
  refine zg_iload_n X dX6_setAbsent_25 rfl ?_
  exact zg_x (zg_nret X hr (hK.2.2.2 _) dX6_setAbsent_26 (Nat.le_of_ble_eq_true rfl) (Nat.le_of_ble_eq_true rfl) (⟨uN (uA σ 19 (upd (σ.2.2 19) j0 b)) 6 (if b = 0 then σ.2.1 6 &&& (bt1 j0 ^^^ -1) else σ.2.1 6 ||| bt1 j0), by rw [sp_setAbsent, if_pos p0, ix_nI k0], rfl⟩))

set_option maxHeartbeats 4000000 in
set_option maxRecDepth 100000 in
theorem k_X6_setSubstitute (l : Launch) (hfl : l.stackTraces = false) (D : va_G) (ad : Nat → Nat) (T : Nat → ClassId) (σ : ZS) (hI : zI σ) (x y : Int32)  : zMX l yX6_setSubstitute wsX6_setSubstitute ({ frames := 7, cells := 3, slots := 18, locals := 111 }) D (zT T) [.ref (ad 0), .int x, .int y] (wC ad T σ) 3 18 (qI D (zT T) (fun v w => ∃ s, sp_setSubstitute σ x y = .inr (v, s) ∧ w = wC ad T s)) (xE D (zT T) (fun E w => sp_setSubstitute σ x y = .inl E ∧ w = wC ad T σ)) := by
  have hB0 := hI.bd
  obtain ⟨b0, b1, b2, b3, b4, b5⟩ := hI.bd
  refine zg_ofx (cc := cX6_setSubstitute) (maxL := 4) (ret := (some .int)) (by decide) rfl (Nat.le_of_ble_eq_true rfl) (fun p e s m below meth c A hno hr X => ?_)
  have X : zC p s m _ meth c cX6_setSubstitute 4 wsX6_setSubstitute RX6 D (zT T) A := X
  have f6 : ∀ w ∈ u_ws RX6 TX6 9, w ∈ wsX6_setSubstitute := by decide +kernel
  have f4 : ∀ w ∈ u_ws RX4 TX4 5, w ∈ wsX6_setSubstitute := by decide +kernel
  have l10 : Cond.fieldLink RX6 10 "Recertify" "people" "LRecertify$People;" ∈ wsX6_setSubstitute := by decide +kernel
  have l61 : Cond.classLink RX6 61 "java/lang/IllegalArgumentException" ∈ wsX6_setSubstitute := by decide +kernel
  have l90 : Cond.fieldLink RX6 90 "Recertify$People" "substitutes" "[I" ∈ wsX6_setSubstitute := by decide +kernel
  refine zg_aload_n X dX6_setSubstitute_0 rfl ?_
  refine zg_iload_n X dX6_setSubstitute_1 rfl ?_
  refine zg_xcallVv X hno (k_X6_requirePerson l hfl D ad T _ hB0 _) zFr.rf gX6_setSubstitute_X6_requirePerson rfl rfl rfl qv_X6_requirePerson rfl ⟨Nat.le_of_ble_eq_true rfl, Nat.le_of_ble_eq_true rfl⟩ (q0 := 0) (ci := 8) rfl rfl rfl (Nat.le_of_ble_eq_true rfl) ⟨Nat.le_of_ble_eq_true rfl, Nat.le_of_ble_eq_true rfl⟩ ⟨Nat.le_of_ble_eq_true rfl, Nat.le_of_ble_eq_true rfl⟩ dX6_setSubstitute_2 (fun E w1 h => ⟨by rw [h.1.1, sp_setSubstitute, if_neg (fun q => h.1.2 q.1)], h.2⟩) (fun w1 hz9 => ?_)
  obtain ⟨⟨j0, h0, e0⟩, rfl⟩ := hz9
  subst e0
  have k0 : j0 < 2 ^ 31 := by omega
  have p0 : pIn (nI j0) (σ.1 0) := pIn_nI (by omega) h0
  refine zg_iload_n X dX6_setSubstitute_5 rfl ?_
  refine zg_iconst X (v := (-1)) dX6_setSubstitute_6 (by decide) ?_
  refine zg_icmp_eq X dX6_setSubstitute_7 (tgt := 15) (by decide) (fun c_7 => ?_) (fun c_7 => ?_)
  · skip
    refine zg_iload_n X dX6_setSubstitute_15 rfl ?_
    refine zg_iload_n X dX6_setSubstitute_16 rfl ?_
    refine zg_icmp_ne X dX6_setSubstitute_17 (tgt := 30) (by decide) (fun c_17 => ?_) (fun c_17 => ?_)
    · skip
      refine zg_aload_n X dX6_setSubstitute_30 rfl ?_
      refine rg_R_people X f6 l10 dX6_setSubstitute_31 ?_
      refine rg_People_substitutes X f4 l90 dX6_setSubstitute_34 ?_
      refine zg_iload_n X dX6_setSubstitute_37 rfl ?_
      refine rlC_substitutes X (by omega) dX6_setSubstitute_38 ?_
      refine zg_istore_n X dX6_setSubstitute_39 (by decide) ?_
      refine zg_aload_n X dX6_setSubstitute_40 rfl ?_
      refine rg_R_people X f6 l10 dX6_setSubstitute_41 ?_
      refine rg_People_substitutes X f4 l90 dX6_setSubstitute_44 ?_
      refine zg_iload_n X dX6_setSubstitute_47 rfl ?_
      refine zg_iload_n X dX6_setSubstitute_48 rfl ?_
      refine rsC_substitutes X (by omega) dX6_setSubstitute_49 ?_
      refine zg_iload_n X dX6_setSubstitute_50 rfl ?_
      exact zg_x (zg_iret X hr dX6_setSubstitute_51 (Nat.le_of_ble_eq_true rfl) (Nat.le_of_ble_eq_true rfl) (⟨_, by rw [sp_setSubstitute, if_pos (And.intro p0 (by first | exact Or.inl c_7 | exact Or.inr p1)), if_neg (by first | exact c_17 | exact (fun q => c_17 ((nI_eq k0 k1).mp q))), ix_nI k0] <;> rfl, rfl⟩))
    · skip
      exact zg_throw X hfl (text := "nobody is their own substitute") hno tq_X6_65.1 tq_X6_65.2.1 l61 (by decide +kernel) (by decide +kernel) (fun w h => by have h : w ∈ (vx_atS RX6 65 "java/lang/IllegalArgumentException" ["java/lang/RuntimeException", "java/lang/Exception"]).filter goodWord := h; revert w; decide +kernel) tq_X6_65.2.2.1 (by decide +kernel) tq_X6_65.2.2.2 dX6_setSubstitute_20 dX6_setSubstitute_23 dX6_setSubstitute_24 dX6_setSubstitute_26 dX6_setSubstitute_29 ⟨Nat.le_of_ble_eq_true rfl, Nat.le_of_ble_eq_true rfl, Nat.le_of_ble_eq_true rfl, Nat.le_of_ble_eq_true rfl⟩ ⟨Nat.le_of_ble_eq_true rfl, Nat.le_of_ble_eq_true rfl⟩ (⟨by rw [sp_setSubstitute, if_pos (And.intro p0 (by first | exact Or.inl c_7 | exact Or.inr p1)), if_pos (by first | exact c_17 | exact congrArg nI c_17)], rfl⟩)
  · skip
    refine zg_aload_n X dX6_setSubstitute_10 rfl ?_
    refine zg_iload_n X dX6_setSubstitute_11 rfl ?_
    refine zg_xcallVv X hno (k_X6_requirePerson l hfl D ad T _ hB0 _) zFr.rf gX6_setSubstitute_X6_requirePerson rfl rfl rfl qv_X6_requirePerson rfl ⟨Nat.le_of_ble_eq_true rfl, Nat.le_of_ble_eq_true rfl⟩ (q0 := 0) (ci := 8) rfl rfl rfl (Nat.le_of_ble_eq_true rfl) ⟨Nat.le_of_ble_eq_true rfl, Nat.le_of_ble_eq_true rfl⟩ ⟨Nat.le_of_ble_eq_true rfl, Nat.le_of_ble_eq_true rfl⟩ dX6_setSubstitute_12 (fun E w1 h => ⟨by rw [h.1.1, sp_setSubstitute, if_neg (fun q => q.2.elim c_7 h.1.2)], h.2⟩) (fun w1 hz9 => ?_)
    obtain ⟨⟨j1, h1, e1⟩, rfl⟩ := hz9
    subst e1
    have k1 : j1 < 2 ^ 31 := by omega
    have p1 : pIn (nI j1) (σ.1 0) := pIn_nI (by omega) h1
    refine zg_iload_n X dX6_setSubstitute_15 rfl ?_
    refine zg_iload_n X dX6_setSubstitute_16 rfl ?_
    refine zg_icmpn_ne X dX6_setSubstitute_17 (tgt := 30) (by decide) (a := j0) (b := j1) (by omega) (by omega) (fun c_17 => ?_) (fun c_17 => ?_)
    · skip
      refine zg_aload_n X dX6_setSubstitute_30 rfl ?_
      refine rg_R_people X f6 l10 dX6_setSubstitute_31 ?_
      refine rg_People_substitutes X f4 l90 dX6_setSubstitute_34 ?_
      refine zg_iload_n X dX6_setSubstitute_37 rfl ?_
      refine rlC_substitutes X (by omega) dX6_setSubstitute_38 ?_
      refine zg_istore_n X dX6_setSubstitute_39 (by decide) ?_
      refine zg_aload_n X dX6_setSubstitute_40 rfl ?_
      refine rg_R_people X f6 l10 dX6_setSubstitute_41 ?_
      refine rg_People_substitutes X f4 l90 dX6_setSubstitute_44 ?_
      refine zg_iload_n X dX6_setSubstitute_47 rfl ?_
      refine zg_iload_n X dX6_setSubstitute_48 rfl ?_
      refine rsC_substitutes X (by omega) dX6_setSubstitute_49 ?_
      refine zg_iload_n X dX6_setSubstitute_50 rfl ?_
      exact zg_x (zg_iret X hr dX6_setSubstitute_51 (Nat.le_of_ble_eq_true rfl) (Nat.le_of_ble_eq_true rfl) (⟨_, by rw [sp_setSubstitute, if_pos (And.intro p0 (by first | exact Or.inl c_7 | exact Or.inr p1)), if_neg (by first | exact c_17 | exact (fun q => c_17 ((nI_eq k0 k1).mp q))), ix_nI k0] <;> rfl, rfl⟩))
    · skip
      exact zg_throw X hfl (text := "nobody is their own substitute") hno tq_X6_65.1 tq_X6_65.2.1 l61 (by decide +kernel) (by decide +kernel) (fun w h => by have h : w ∈ (vx_atS RX6 65 "java/lang/IllegalArgumentException" ["java/lang/RuntimeException", "java/lang/Exception"]).filter goodWord := h; revert w; decide +kernel) tq_X6_65.2.2.1 (by decide +kernel) tq_X6_65.2.2.2 dX6_setSubstitute_20 dX6_setSubstitute_23 dX6_setSubstitute_24 dX6_setSubstitute_26 dX6_setSubstitute_29 ⟨Nat.le_of_ble_eq_true rfl, Nat.le_of_ble_eq_true rfl, Nat.le_of_ble_eq_true rfl, Nat.le_of_ble_eq_true rfl⟩ ⟨Nat.le_of_ble_eq_true rfl, Nat.le_of_ble_eq_true rfl⟩ (⟨by rw [sp_setSubstitute, if_pos (And.intro p0 (by first | exact Or.inl c_7 | exact Or.inr p1)), if_pos (by first | exact c_17 | exact congrArg nI c_17)], rfl⟩)

set_option maxHeartbeats 4000000 in
set_option maxRecDepth 100000 in
theorem k_X6_addGroup (l : Launch) (hfl : l.stackTraces = false) (D : va_G) (ad : Nat → Nat) (T : Nat → ClassId) (σ : ZS) (hI : zI σ) (x : Int32)  : zMX l yX6_addGroup wsX6_addGroup ({ frames := 7, cells := 2, slots := 12, locals := 111 }) D (zT T) [.ref (ad 0), .int x] (wC ad T σ) 2 12 (qI D (zT T) (fun v w => ∃ s, sp_addGroup σ x = .inr (v, s) ∧ w = wC ad T s)) (xE D (zT T) (fun E w => sp_addGroup σ x = .inl E ∧ w = wC ad T σ)) := by
  have hB0 := hI.bd
  obtain ⟨b0, b1, b2, b3, b4, b5⟩ := hI.bd
  refine zg_ofx (cc := cX6_addGroup) (maxL := 2) (ret := (some .int)) (by decide) rfl (Nat.le_of_ble_eq_true rfl) (fun p e s m below meth c A hno hr X => ?_)
  have X : zC p s m _ meth c cX6_addGroup 2 wsX6_addGroup RX6 D (zT T) A := X
  have f6 : ∀ w ∈ u_ws RX6 TX6 9, w ∈ wsX6_addGroup := by decide +kernel
  have f3 : ∀ w ∈ u_ws RX3 TX3 5, w ∈ wsX6_addGroup := by decide +kernel
  have l19 : Cond.fieldLink RX6 19 "Recertify" "groups" "LRecertify$Groups;" ∈ wsX6_addGroup := by decide +kernel
  have l75 : Cond.classLink RX6 75 "java/lang/IllegalStateException" ∈ wsX6_addGroup := by decide +kernel
  have l98 : Cond.fieldLink RX6 98 "Recertify$Groups" "count" "I" ∈ wsX6_addGroup := by decide +kernel
  refine zg_aload_n X dX6_addGroup_0 rfl ?_
  refine zg_iload_n X dX6_addGroup_1 rfl ?_
  refine zg_xcallVv X hno (k_X6_requirePerson l hfl D ad T _ hB0 _) zFr.rf gX6_addGroup_X6_requirePerson rfl rfl rfl qv_X6_requirePerson rfl ⟨Nat.le_of_ble_eq_true rfl, Nat.le_of_ble_eq_true rfl⟩ (q0 := 0) (ci := 8) rfl rfl rfl (Nat.le_of_ble_eq_true rfl) ⟨Nat.le_of_ble_eq_true rfl, Nat.le_of_ble_eq_true rfl⟩ ⟨Nat.le_of_ble_eq_true rfl, Nat.le_of_ble_eq_true rfl⟩ dX6_addGroup_2 (fun E w1 h => ⟨by rw [h.1.1, sp_addGroup, if_neg h.1.2], h.2⟩) (fun w1 hz9 => ?_)
  obtain ⟨⟨j0, h0, e0⟩, rfl⟩ := hz9
  subst e0
  have k0 : j0 < 2 ^ 31 := by omega
  have p0 : pIn (nI j0) (σ.1 0) := pIn_nI (by omega) h0
  refine zg_aload_n X dX6_addGroup_5 rfl ?_
  refine rg_R_groups X f6 l19 dX6_addGroup_6 ?_
  refine rg_Groups_count X f3 l98 dX6_addGroup_9 ?_
  refine zg_bipush X (v := 8) dX6_addGroup_12 (by decide) ?_
  refine zg_icmpn_lt X dX6_addGroup_14 (tgt := 27) (by decide) (a := σ.1 1) (b := 8) (by omega) (by omega) (fun c_14 => ?_) (fun c_14 => ?_)
  · skip
    refine zg_aload_n X dX6_addGroup_27 rfl ?_
    refine rg_R_groups X f6 l19 dX6_addGroup_28 ?_
    refine zg_iload_n X dX6_addGroup_31 rfl ?_
    refine zg_callVi X (k_X3_add l D ad T _ _ (by omega)) zFr.rf gX6_addGroup_X3_add rfl rfl rfl qv_X3_add rfl ⟨Nat.le_of_ble_eq_true rfl, Nat.le_of_ble_eq_true rfl⟩ (q0 := 2) (ci := 5) rfl rfl rfl (Nat.le_of_ble_eq_true rfl) ⟨Nat.le_of_ble_eq_true rfl, Nat.le_of_ble_eq_true rfl⟩ dX6_addGroup_32 (fun r w1 hz9 => ?_)
    obtain ⟨rfl, rfl⟩ := hz9
    exact zg_x (zg_iret X hr dX6_addGroup_35 (Nat.le_of_ble_eq_true rfl) (Nat.le_of_ble_eq_true rfl) (⟨_, by rw [sp_addGroup, if_pos p0, if_neg (show ¬ σ.1 1 = 8 by omega)] <;> rfl, rfl⟩))
  · skip
    exact zg_throw X hfl (text := "there is no room for another group") hno tq_X6_79.1 tq_X6_79.2.1 l75 (by decide +kernel) (by decide +kernel) (fun w h => by have h : w ∈ (vx_atS RX6 79 "java/lang/IllegalStateException" ["java/lang/RuntimeException", "java/lang/Exception"]).filter goodWord := h; revert w; decide +kernel) tq_X6_79.2.2.1 (by decide +kernel) tq_X6_79.2.2.2 dX6_addGroup_17 dX6_addGroup_20 dX6_addGroup_21 dX6_addGroup_23 dX6_addGroup_26 ⟨Nat.le_of_ble_eq_true rfl, Nat.le_of_ble_eq_true rfl, Nat.le_of_ble_eq_true rfl, Nat.le_of_ble_eq_true rfl⟩ ⟨Nat.le_of_ble_eq_true rfl, Nat.le_of_ble_eq_true rfl⟩ (⟨by rw [sp_addGroup, if_pos p0, if_pos (show σ.1 1 = 8 by omega)], rfl⟩)

set_option maxHeartbeats 4000000 in
set_option maxRecDepth 100000 in
theorem k_X6_addMember (l : Launch) (hfl : l.stackTraces = false) (D : va_G) (ad : Nat → Nat) (T : Nat → ClassId) (σ : ZS) (hI : zI σ) (x y : Int32)  : zMX l yX6_addMember wsX6_addMember ({ frames := 7, cells := 3, slots := 18, locals := 111 }) D (zT T) [.ref (ad 0), .int x, .int y] (wC ad T σ) 3 18 (qI D (zT T) (fun v w => ∃ s, sp_addMember σ x y = .inr (v, s) ∧ w = wC ad T s)) (xE D (zT T) (fun E w => sp_addMember σ x y = .inl E ∧ w = wC ad T σ)) := by
  have hB0 := hI.bd
  obtain ⟨b0, b1, b2, b3, b4, b5⟩ := hI.bd
  refine zg_ofx (cc := cX6_addMember) (maxL := 3) (ret := (some .int)) (by decide) rfl (Nat.le_of_ble_eq_true rfl) (fun p e s m below meth c A hno hr X => ?_)
  have X : zC p s m _ meth c cX6_addMember 3 wsX6_addMember RX6 D (zT T) A := X
  have f6 : ∀ w ∈ u_ws RX6 TX6 9, w ∈ wsX6_addMember := by decide +kernel
  have f3 : ∀ w ∈ u_ws RX3 TX3 5, w ∈ wsX6_addMember := by decide +kernel
  have l106 : Cond.fieldLink RX6 106 "Recertify$Groups" "direct" "[I" ∈ wsX6_addMember := by decide +kernel
  have l19 : Cond.fieldLink RX6 19 "Recertify" "groups" "LRecertify$Groups;" ∈ wsX6_addMember := by decide +kernel
  have l75 : Cond.classLink RX6 75 "java/lang/IllegalStateException" ∈ wsX6_addMember := by decide +kernel
  refine zg_aload_n X dX6_addMember_0 rfl ?_
  refine zg_iload_n X dX6_addMember_1 rfl ?_
  refine zg_xcallVv X hno (k_X6_requireGroup l hfl D ad T _ hB0 _) zFr.rf gX6_addMember_X6_requireGroup rfl rfl rfl qv_X6_requireGroup rfl ⟨Nat.le_of_ble_eq_true rfl, Nat.le_of_ble_eq_true rfl⟩ (q0 := 0) (ci := 8) rfl rfl rfl (Nat.le_of_ble_eq_true rfl) ⟨Nat.le_of_ble_eq_true rfl, Nat.le_of_ble_eq_true rfl⟩ ⟨Nat.le_of_ble_eq_true rfl, Nat.le_of_ble_eq_true rfl⟩ dX6_addMember_2 (fun E w1 h => ⟨by rw [h.1.1, sp_addMember, if_neg (fun q => h.1.2 q.1)], h.2⟩) (fun w1 hz9 => ?_)
  obtain ⟨⟨j0, h0, e0⟩, rfl⟩ := hz9
  subst e0
  have k0 : j0 < 2 ^ 31 := by omega
  have p0 : pIn (nI j0) (σ.1 1) := pIn_nI (by omega) h0
  refine zg_aload_n X dX6_addMember_5 rfl ?_
  refine zg_iload_n X dX6_addMember_6 rfl ?_
  refine zg_xcallVv X hno (k_X6_requirePerson l hfl D ad T _ hB0 _) zFr.rf gX6_addMember_X6_requirePerson rfl rfl rfl qv_X6_requirePerson rfl ⟨Nat.le_of_ble_eq_true rfl, Nat.le_of_ble_eq_true rfl⟩ (q0 := 0) (ci := 8) rfl rfl rfl (Nat.le_of_ble_eq_true rfl) ⟨Nat.le_of_ble_eq_true rfl, Nat.le_of_ble_eq_true rfl⟩ ⟨Nat.le_of_ble_eq_true rfl, Nat.le_of_ble_eq_true rfl⟩ dX6_addMember_7 (fun E w1 h => ⟨by rw [h.1.1, sp_addMember, if_neg (fun q => h.1.2 q.2)], h.2⟩) (fun w1 hz9 => ?_)
  obtain ⟨⟨j1, h1, e1⟩, rfl⟩ := hz9
  subst e1
  have k1 : j1 < 2 ^ 31 := by omega
  have p1 : pIn (nI j1) (σ.1 0) := pIn_nI (by omega) h1
  refine zg_aload_n X dX6_addMember_10 rfl ?_
  refine rg_R_groups X f6 l19 dX6_addMember_11 ?_
  refine rg_Groups_direct X f3 l106 dX6_addMember_14 ?_
  refine zg_iload_n X dX6_addMember_17 rfl ?_
  refine rlC_direct X (by omega) dX6_addMember_18 ?_
  refine zg_iload_n X dX6_addMember_19 rfl ?_
  refine zg_callSi X (k_X6_contains l D ad T _ _ j1) zFr.rf gX6_addMember_X6_contains rfl rfl rfl qd_X6_contains rfl ⟨Nat.le_of_ble_eq_true rfl, Nat.le_of_ble_eq_true rfl⟩ rfl (Nat.le_of_ble_eq_true rfl) ⟨Nat.le_of_ble_eq_true rfl, Nat.le_of_ble_eq_true rfl⟩ dX6_addMember_20 (fun r w1 hz9 => ?_)
  obtain ⟨rfl, rfl⟩ := hz9
  refine zg_if_eqb X dX6_addMember_23 (tgt := 36) (by decide) (fun c_23 => ?_) (fun c_23 => ?_)
  · skip
    refine zg_aload_n X dX6_addMember_36 rfl ?_
    refine rg_R_groups X f6 l19 dX6_addMember_37 ?_
    refine zg_iload_n X dX6_addMember_40 rfl ?_
    refine zg_aload_n X dX6_addMember_41 rfl ?_
    refine rg_R_groups X f6 l19 dX6_addMember_42 ?_
    refine rg_Groups_direct X f3 l106 dX6_addMember_45 ?_
    refine zg_iload_n X dX6_addMember_48 rfl ?_
    refine rlC_direct X (by omega) dX6_addMember_49 ?_
    refine zg_iload_n X dX6_addMember_50 rfl ?_
    refine zg_callSi X (k_X6_bit l D ad T _ j1) zFr.rf gX6_addMember_X6_bit rfl rfl rfl qd_X6_bit rfl ⟨Nat.le_of_ble_eq_true rfl, Nat.le_of_ble_eq_true rfl⟩ rfl (Nat.le_of_ble_eq_true rfl) ⟨Nat.le_of_ble_eq_true rfl, Nat.le_of_ble_eq_true rfl⟩ dX6_addMember_51 (fun r w1 hz9 => ?_)
    obtain ⟨rfl, rfl⟩ := hz9
    refine zg_ior X dX6_addMember_54 ?_
    refine zg_callVi X (k_X3_setDirect l D ad T _ hB0 j0 (by omega) _) zFr.rf gX6_addMember_X3_setDirect rfl rfl rfl qv_X3_setDirect rfl ⟨Nat.le_of_ble_eq_true rfl, Nat.le_of_ble_eq_true rfl⟩ (q0 := 2) (ci := 5) rfl rfl rfl (Nat.le_of_ble_eq_true rfl) ⟨Nat.le_of_ble_eq_true rfl, Nat.le_of_ble_eq_true rfl⟩ dX6_addMember_55 (fun r w1 hz9 => ?_)
    obtain ⟨rfl, rfl⟩ := hz9
    exact zg_x (zg_iret X hr dX6_addMember_58 (Nat.le_of_ble_eq_true rfl) (Nat.le_of_ble_eq_true rfl) (⟨_, by rw [sp_addMember, if_pos (And.intro p0 p1), ix_nI k0, ix_nI k1, if_neg c_23] <;> rfl, rfl⟩))
  · skip
    exact zg_throw X hfl (text := "the person is a direct member") hno tq_X6_79.1 tq_X6_79.2.1 l75 (by decide +kernel) (by decide +kernel) (fun w h => by have h : w ∈ (vx_atS RX6 79 "java/lang/IllegalStateException" ["java/lang/RuntimeException", "java/lang/Exception"]).filter goodWord := h; revert w; decide +kernel) tq_X6_79.2.2.1 (by decide +kernel) tq_X6_79.2.2.2 dX6_addMember_26 dX6_addMember_29 dX6_addMember_30 dX6_addMember_32 dX6_addMember_35 ⟨Nat.le_of_ble_eq_true rfl, Nat.le_of_ble_eq_true rfl, Nat.le_of_ble_eq_true rfl, Nat.le_of_ble_eq_true rfl⟩ ⟨Nat.le_of_ble_eq_true rfl, Nat.le_of_ble_eq_true rfl⟩ (⟨by rw [sp_addMember, if_pos (And.intro p0 p1), ix_nI k0, ix_nI k1, if_pos c_23], rfl⟩)

set_option maxHeartbeats 4000000 in
set_option maxRecDepth 100000 in
theorem k_X6_removeMember (l : Launch) (hfl : l.stackTraces = false) (D : va_G) (ad : Nat → Nat) (T : Nat → ClassId) (σ : ZS) (hI : zI σ) (x y : Int32)  : zMX l yX6_removeMember wsX6_removeMember ({ frames := 7, cells := 3, slots := 18, locals := 111 }) D (zT T) [.ref (ad 0), .int x, .int y] (wC ad T σ) 3 18 (qI D (zT T) (fun v w => ∃ s, sp_removeMember σ x y = .inr (v, s) ∧ w = wC ad T s)) (xE D (zT T) (fun E w => sp_removeMember σ x y = .inl E ∧ w = wC ad T σ)) := by
  have hB0 := hI.bd
  obtain ⟨b0, b1, b2, b3, b4, b5⟩ := hI.bd
  refine zg_ofx (cc := cX6_removeMember) (maxL := 3) (ret := (some .int)) (by decide) rfl (Nat.le_of_ble_eq_true rfl) (fun p e s m below meth c A hno hr X => ?_)
  have X : zC p s m _ meth c cX6_removeMember 3 wsX6_removeMember RX6 D (zT T) A := X
  have f6 : ∀ w ∈ u_ws RX6 TX6 9, w ∈ wsX6_removeMember := by decide +kernel
  have f3 : ∀ w ∈ u_ws RX3 TX3 5, w ∈ wsX6_removeMember := by decide +kernel
  have l106 : Cond.fieldLink RX6 106 "Recertify$Groups" "direct" "[I" ∈ wsX6_removeMember := by decide +kernel
  have l19 : Cond.fieldLink RX6 19 "Recertify" "groups" "LRecertify$Groups;" ∈ wsX6_removeMember := by decide +kernel
  have l75 : Cond.classLink RX6 75 "java/lang/IllegalStateException" ∈ wsX6_removeMember := by decide +kernel
  refine zg_aload_n X dX6_removeMember_0 rfl ?_
  refine zg_iload_n X dX6_removeMember_1 rfl ?_
  refine zg_xcallVv X hno (k_X6_requireGroup l hfl D ad T _ hB0 _) zFr.rf gX6_removeMember_X6_requireGroup rfl rfl rfl qv_X6_requireGroup rfl ⟨Nat.le_of_ble_eq_true rfl, Nat.le_of_ble_eq_true rfl⟩ (q0 := 0) (ci := 8) rfl rfl rfl (Nat.le_of_ble_eq_true rfl) ⟨Nat.le_of_ble_eq_true rfl, Nat.le_of_ble_eq_true rfl⟩ ⟨Nat.le_of_ble_eq_true rfl, Nat.le_of_ble_eq_true rfl⟩ dX6_removeMember_2 (fun E w1 h => ⟨by rw [h.1.1, sp_removeMember, if_neg (fun q => h.1.2 q.1)], h.2⟩) (fun w1 hz9 => ?_)
  obtain ⟨⟨j0, h0, e0⟩, rfl⟩ := hz9
  subst e0
  have k0 : j0 < 2 ^ 31 := by omega
  have p0 : pIn (nI j0) (σ.1 1) := pIn_nI (by omega) h0
  refine zg_aload_n X dX6_removeMember_5 rfl ?_
  refine zg_iload_n X dX6_removeMember_6 rfl ?_
  refine zg_xcallVv X hno (k_X6_requirePerson l hfl D ad T _ hB0 _) zFr.rf gX6_removeMember_X6_requirePerson rfl rfl rfl qv_X6_requirePerson rfl ⟨Nat.le_of_ble_eq_true rfl, Nat.le_of_ble_eq_true rfl⟩ (q0 := 0) (ci := 8) rfl rfl rfl (Nat.le_of_ble_eq_true rfl) ⟨Nat.le_of_ble_eq_true rfl, Nat.le_of_ble_eq_true rfl⟩ ⟨Nat.le_of_ble_eq_true rfl, Nat.le_of_ble_eq_true rfl⟩ dX6_removeMember_7 (fun E w1 h => ⟨by rw [h.1.1, sp_removeMember, if_neg (fun q => h.1.2 q.2)], h.2⟩) (fun w1 hz9 => ?_)
  obtain ⟨⟨j1, h1, e1⟩, rfl⟩ := hz9
  subst e1
  have k1 : j1 < 2 ^ 31 := by omega
  have p1 : pIn (nI j1) (σ.1 0) := pIn_nI (by omega) h1
  refine zg_aload_n X dX6_removeMember_10 rfl ?_
  refine rg_R_groups X f6 l19 dX6_removeMember_11 ?_
  refine rg_Groups_direct X f3 l106 dX6_removeMember_14 ?_
  refine zg_iload_n X dX6_removeMember_17 rfl ?_
  refine rlC_direct X (by omega) dX6_removeMember_18 ?_
  refine zg_iload_n X dX6_removeMember_19 rfl ?_
  refine zg_callSi X (k_X6_contains l D ad T _ _ j1) zFr.rf gX6_removeMember_X6_contains rfl rfl rfl qd_X6_contains rfl ⟨Nat.le_of_ble_eq_true rfl, Nat.le_of_ble_eq_true rfl⟩ rfl (Nat.le_of_ble_eq_true rfl) ⟨Nat.le_of_ble_eq_true rfl, Nat.le_of_ble_eq_true rfl⟩ dX6_removeMember_20 (fun r w1 hz9 => ?_)
  obtain ⟨rfl, rfl⟩ := hz9
  refine zg_if_neb X dX6_removeMember_23 (tgt := 36) (by decide) (fun c_23 => ?_) (fun c_23 => ?_)
  · skip
    refine zg_aload_n X dX6_removeMember_36 rfl ?_
    refine rg_R_groups X f6 l19 dX6_removeMember_37 ?_
    refine zg_iload_n X dX6_removeMember_40 rfl ?_
    refine zg_aload_n X dX6_removeMember_41 rfl ?_
    refine rg_R_groups X f6 l19 dX6_removeMember_42 ?_
    refine rg_Groups_direct X f3 l106 dX6_removeMember_45 ?_
    refine zg_iload_n X dX6_removeMember_48 rfl ?_
    refine rlC_direct X (by omega) dX6_removeMember_49 ?_
    refine zg_iload_n X dX6_removeMember_50 rfl ?_
    refine zg_callSi X (k_X6_bit l D ad T _ j1) zFr.rf gX6_removeMember_X6_bit rfl rfl rfl qd_X6_bit rfl ⟨Nat.le_of_ble_eq_true rfl, Nat.le_of_ble_eq_true rfl⟩ rfl (Nat.le_of_ble_eq_true rfl) ⟨Nat.le_of_ble_eq_true rfl, Nat.le_of_ble_eq_true rfl⟩ dX6_removeMember_51 (fun r w1 hz9 => ?_)
    obtain ⟨rfl, rfl⟩ := hz9
    refine zg_iconst X (v := (-1)) dX6_removeMember_54 (by decide) ?_
    refine zg_ixor X dX6_removeMember_55 ?_
    refine zg_iand X dX6_removeMember_56 ?_
    refine zg_callVi X (k_X3_setDirect l D ad T _ hB0 j0 (by omega) _) zFr.rf gX6_removeMember_X3_setDirect rfl rfl rfl qv_X3_setDirect rfl ⟨Nat.le_of_ble_eq_true rfl, Nat.le_of_ble_eq_true rfl⟩ (q0 := 2) (ci := 5) rfl rfl rfl (Nat.le_of_ble_eq_true rfl) ⟨Nat.le_of_ble_eq_true rfl, Nat.le_of_ble_eq_true rfl⟩ dX6_removeMember_57 (fun r w1 hz9 => ?_)
    obtain ⟨rfl, rfl⟩ := hz9
    exact zg_x (zg_iret X hr dX6_removeMember_60 (Nat.le_of_ble_eq_true rfl) (Nat.le_of_ble_eq_true rfl) (⟨_, by rw [sp_removeMember, if_pos (And.intro p0 p1), ix_nI k0, ix_nI k1, if_pos c_23] <;> rfl, rfl⟩))
  · skip
    exact zg_throw X hfl (text := "the person is not a direct member") hno tq_X6_79.1 tq_X6_79.2.1 l75 (by decide +kernel) (by decide +kernel) (fun w h => by have h : w ∈ (vx_atS RX6 79 "java/lang/IllegalStateException" ["java/lang/RuntimeException", "java/lang/Exception"]).filter goodWord := h; revert w; decide +kernel) tq_X6_79.2.2.1 (by decide +kernel) tq_X6_79.2.2.2 dX6_removeMember_26 dX6_removeMember_29 dX6_removeMember_30 dX6_removeMember_32 dX6_removeMember_35 ⟨Nat.le_of_ble_eq_true rfl, Nat.le_of_ble_eq_true rfl, Nat.le_of_ble_eq_true rfl, Nat.le_of_ble_eq_true rfl⟩ ⟨Nat.le_of_ble_eq_true rfl, Nat.le_of_ble_eq_true rfl⟩ (⟨by rw [sp_removeMember, if_pos (And.intro p0 p1), ix_nI k0, ix_nI k1, if_neg c_23], rfl⟩)

set_option maxHeartbeats 4000000 in
set_option maxRecDepth 100000 in
theorem k_X6_nest (l : Launch) (hfl : l.stackTraces = false) (D : va_G) (ad : Nat → Nat) (T : Nat → ClassId) (σ : ZS) (hI : zI σ) (x y : Int32)  : zMX l yX6_nest wsX6_nest ({ frames := 7, cells := 3, slots := 18, locals := 111 }) D (zT T) [.ref (ad 0), .int x, .int y] (wC ad T σ) 3 18 (qI D (zT T) (fun v w => ∃ s, sp_nest σ x y = .inr (v, s) ∧ w = wC ad T s)) (xE D (zT T) (fun E w => sp_nest σ x y = .inl E ∧ w = wC ad T σ)) := by
  have hB0 := hI.bd
  obtain ⟨b0, b1, b2, b3, b4, b5⟩ := hI.bd
  refine zg_ofx (cc := cX6_nest) (maxL := 3) (ret := (some .int)) (by decide) rfl (Nat.le_of_ble_eq_true rfl) (fun p e s m below meth c A hno hr X => ?_)
  have X : zC p s m _ meth c cX6_nest 3 wsX6_nest RX6 D (zT T) A := X
  have f6 : ∀ w ∈ u_ws RX6 TX6 9, w ∈ wsX6_nest := by decide +kernel
  have f3 : ∀ w ∈ u_ws RX3 TX3 5, w ∈ wsX6_nest := by decide +kernel
  have l126 : Cond.classLink RX6 126 "java/lang/UnsupportedOperationException" ∈ wsX6_nest := by decide +kernel
  have l131 : Cond.fieldLink RX6 131 "Recertify$Groups" "nested" "[I" ∈ wsX6_nest := by decide +kernel
  have l19 : Cond.fieldLink RX6 19 "Recertify" "groups" "LRecertify$Groups;" ∈ wsX6_nest := by decide +kernel
  have l75 : Cond.classLink RX6 75 "java/lang/IllegalStateException" ∈ wsX6_nest := by decide +kernel
  refine zg_aload_n X dX6_nest_0 rfl ?_
  refine zg_iload_n X dX6_nest_1 rfl ?_
  refine zg_xcallVv X hno (k_X6_requireGroup l hfl D ad T _ hB0 _) zFr.rf gX6_nest_X6_requireGroup rfl rfl rfl qv_X6_requireGroup rfl ⟨Nat.le_of_ble_eq_true rfl, Nat.le_of_ble_eq_true rfl⟩ (q0 := 0) (ci := 8) rfl rfl rfl (Nat.le_of_ble_eq_true rfl) ⟨Nat.le_of_ble_eq_true rfl, Nat.le_of_ble_eq_true rfl⟩ ⟨Nat.le_of_ble_eq_true rfl, Nat.le_of_ble_eq_true rfl⟩ dX6_nest_2 (fun E w1 h => ⟨by rw [h.1.1, sp_nest, if_neg (fun q => h.1.2 q.1)], h.2⟩) (fun w1 hz9 => ?_)
  obtain ⟨⟨j0, h0, e0⟩, rfl⟩ := hz9
  subst e0
  have k0 : j0 < 2 ^ 31 := by omega
  have p0 : pIn (nI j0) (σ.1 1) := pIn_nI (by omega) h0
  refine zg_aload_n X dX6_nest_5 rfl ?_
  refine zg_iload_n X dX6_nest_6 rfl ?_
  refine zg_xcallVv X hno (k_X6_requireGroup l hfl D ad T _ hB0 _) zFr.rf gX6_nest_X6_requireGroup rfl rfl rfl qv_X6_requireGroup rfl ⟨Nat.le_of_ble_eq_true rfl, Nat.le_of_ble_eq_true rfl⟩ (q0 := 0) (ci := 8) rfl rfl rfl (Nat.le_of_ble_eq_true rfl) ⟨Nat.le_of_ble_eq_true rfl, Nat.le_of_ble_eq_true rfl⟩ ⟨Nat.le_of_ble_eq_true rfl, Nat.le_of_ble_eq_true rfl⟩ dX6_nest_7 (fun E w1 h => ⟨by rw [h.1.1, sp_nest, if_neg (fun q => h.1.2 q.2)], h.2⟩) (fun w1 hz9 => ?_)
  obtain ⟨⟨j1, h1, e1⟩, rfl⟩ := hz9
  subst e1
  have k1 : j1 < 2 ^ 31 := by omega
  have p1 : pIn (nI j1) (σ.1 1) := pIn_nI (by omega) h1
  refine zg_aload_n X dX6_nest_10 rfl ?_
  refine rg_R_groups X f6 l19 dX6_nest_11 ?_
  refine zg_iload_n X dX6_nest_14 rfl ?_
  refine zg_callVi X (k_X3_findBelow l D ad T _ hB0 j1 h1) zFr.rf gX6_nest_X3_findBelow rfl rfl rfl qv_X3_findBelow rfl ⟨Nat.le_of_ble_eq_true rfl, Nat.le_of_ble_eq_true rfl⟩ (q0 := 2) (ci := 5) rfl rfl rfl (Nat.le_of_ble_eq_true rfl) ⟨Nat.le_of_ble_eq_true rfl, Nat.le_of_ble_eq_true rfl⟩ dX6_nest_15 (fun r w1 hz9 => ?_)
  obtain ⟨rfl, rfl⟩ := hz9
  refine zg_iload_n X dX6_nest_18 rfl ?_
  refine zg_callSi X (k_X6_contains l D ad T _ _ j0) zFr.rf gX6_nest_X6_contains rfl rfl rfl qd_X6_contains rfl ⟨Nat.le_of_ble_eq_true rfl, Nat.le_of_ble_eq_true rfl⟩ rfl (Nat.le_of_ble_eq_true rfl) ⟨Nat.le_of_ble_eq_true rfl, Nat.le_of_ble_eq_true rfl⟩ dX6_nest_19 (fun r w1 hz9 => ?_)
  obtain ⟨rfl, rfl⟩ := hz9
  refine zg_if_eqb X dX6_nest_22 (tgt := 35) (by decide) (fun c_22 => ?_) (fun c_22 => ?_)
  · skip
    refine zg_aload_n X dX6_nest_35 rfl ?_
    refine rg_R_groups X f6 l19 dX6_nest_36 ?_
    refine rg_Groups_nested X f3 l131 dX6_nest_39 ?_
    refine zg_iload_n X dX6_nest_42 rfl ?_
    refine rlC_nested X (by omega) dX6_nest_43 ?_
    refine zg_iload_n X dX6_nest_44 rfl ?_
    refine zg_callSi X (k_X6_contains l D ad T _ _ j1) zFr.rf gX6_nest_X6_contains rfl rfl rfl qd_X6_contains rfl ⟨Nat.le_of_ble_eq_true rfl, Nat.le_of_ble_eq_true rfl⟩ rfl (Nat.le_of_ble_eq_true rfl) ⟨Nat.le_of_ble_eq_true rfl, Nat.le_of_ble_eq_true rfl⟩ dX6_nest_45 (fun r w1 hz9 => ?_)
    obtain ⟨rfl, rfl⟩ := hz9
    refine zg_if_eqb X dX6_nest_48 (tgt := 61) (by decide) (fun c_48 => ?_) (fun c_48 => ?_)
    · skip
      refine zg_aload_n X dX6_nest_61 rfl ?_
      refine rg_R_groups X f6 l19 dX6_nest_62 ?_
      refine zg_iload_n X dX6_nest_65 rfl ?_
      refine zg_iload_n X dX6_nest_66 rfl ?_
      refine zg_callVi X (k_X3_addNested l D ad T _ hB0 j0 j1 (by omega)) zFr.rf gX6_nest_X3_addNested rfl rfl rfl qv_X3_addNested rfl ⟨Nat.le_of_ble_eq_true rfl, Nat.le_of_ble_eq_true rfl⟩ (q0 := 2) (ci := 5) rfl rfl rfl (Nat.le_of_ble_eq_true rfl) ⟨Nat.le_of_ble_eq_true rfl, Nat.le_of_ble_eq_true rfl⟩ dX6_nest_67 (fun r w1 hz9 => ?_)
      obtain ⟨rfl, rfl⟩ := hz9
      exact zg_x (zg_iret X hr dX6_nest_70 (Nat.le_of_ble_eq_true rfl) (Nat.le_of_ble_eq_true rfl) (⟨_, by rw [sp_nest, if_pos (And.intro p0 p1), ix_nI k0, ix_nI k1, if_neg c_22, if_neg c_48] <;> rfl, rfl⟩))
    · skip
      exact zg_throw X hfl (text := "the group is nested in it already") hno tq_X6_79.1 tq_X6_79.2.1 l75 (by decide +kernel) (by decide +kernel) (fun w h => by have h : w ∈ (vx_atS RX6 79 "java/lang/IllegalStateException" ["java/lang/RuntimeException", "java/lang/Exception"]).filter goodWord := h; revert w; decide +kernel) tq_X6_79.2.2.1 (by decide +kernel) tq_X6_79.2.2.2 dX6_nest_51 dX6_nest_54 dX6_nest_55 dX6_nest_57 dX6_nest_60 ⟨Nat.le_of_ble_eq_true rfl, Nat.le_of_ble_eq_true rfl, Nat.le_of_ble_eq_true rfl, Nat.le_of_ble_eq_true rfl⟩ ⟨Nat.le_of_ble_eq_true rfl, Nat.le_of_ble_eq_true rfl⟩ (⟨by rw [sp_nest, if_pos (And.intro p0 p1), ix_nI k0, ix_nI k1, if_neg c_22, if_pos c_48], rfl⟩)
  · skip
    exact zg_throw X hfl (text := "the groups would be nested in a circle") hno tq_X6_130.1 tq_X6_130.2.1 l126 (by decide +kernel) (by decide +kernel) (fun w h => by have h : w ∈ (vx_atS RX6 130 "java/lang/UnsupportedOperationException" ["java/lang/RuntimeException", "java/lang/Exception"]).filter goodWord := h; revert w; decide +kernel) tq_X6_130.2.2.1 (by decide +kernel) tq_X6_130.2.2.2 dX6_nest_25 dX6_nest_28 dX6_nest_29 dX6_nest_31 dX6_nest_34 ⟨Nat.le_of_ble_eq_true rfl, Nat.le_of_ble_eq_true rfl, Nat.le_of_ble_eq_true rfl, Nat.le_of_ble_eq_true rfl⟩ ⟨Nat.le_of_ble_eq_true rfl, Nat.le_of_ble_eq_true rfl⟩ (⟨by rw [sp_nest, if_pos (And.intro p0 p1), ix_nI k0, ix_nI k1, if_pos c_22], rfl⟩)

set_option maxHeartbeats 4000000 in
set_option maxRecDepth 100000 in
theorem k_X6_addRight (l : Launch) (hfl : l.stackTraces = false) (D : va_G) (ad : Nat → Nat) (T : Nat → ClassId) (σ : ZS) (hI : zI σ) (sn o vt : Int32) (hv : vt = 0 ∨ vt = 1) : zMX l yX6_addRight wsX6_addRight ({ frames := 7, cells := 2, slots := 12, locals := 111 }) D (zT T) [.ref (ad 0), .int sn, .int o, .int vt] (wC ad T σ) 2 12 (qI D (zT T) (fun v w => ∃ s, sp_addRight σ sn o vt = .inr (v, s) ∧ w = wC ad T s)) (xE D (zT T) (fun E w => sp_addRight σ sn o vt = .inl E ∧ w = wC ad T σ)) := by
  have hB0 := hI.bd
  obtain ⟨b0, b1, b2, b3, b4, b5⟩ := hI.bd
  refine zg_ofx (cc := cX6_addRight) (maxL := 4) (ret := (some .int)) (by decide) rfl (Nat.le_of_ble_eq_true rfl) (fun p e s m below meth c A hno hr X => ?_)
  have X : zC p s m _ meth c cX6_addRight 4 wsX6_addRight RX6 D (zT T) A := X
  have f6 : ∀ w ∈ u_ws RX6 TX6 9, w ∈ wsX6_addRight := by decide +kernel
  have f5 : ∀ w ∈ u_ws RX5 TX5 5, w ∈ wsX6_addRight := by decide +kernel
  have l149 : Cond.fieldLink RX6 149 "Recertify$Rights" "count" "I" ∈ wsX6_addRight := by decide +kernel
  have l26 : Cond.fieldLink RX6 26 "Recertify" "rights" "LRecertify$Rights;" ∈ wsX6_addRight := by decide +kernel
  have l61 : Cond.classLink RX6 61 "java/lang/IllegalArgumentException" ∈ wsX6_addRight := by decide +kernel
  have l75 : Cond.classLink RX6 75 "java/lang/IllegalStateException" ∈ wsX6_addRight := by decide +kernel
  refine zg_iload_n X dX6_addRight_0 rfl ?_
  refine zg_iconst X (v := 1) dX6_addRight_1 (by decide) ?_
  refine zg_icmp_lt X dX6_addRight_2 (tgt := 11) (by decide) (fun c_2 => ?_) (fun c_2 => ?_)
  · skip
    exact zg_throw X hfl (text := "the sensitivity is out of range") hno tq_X6_65.1 tq_X6_65.2.1 l61 (by decide +kernel) (by decide +kernel) (fun w h => by have h : w ∈ (vx_atS RX6 65 "java/lang/IllegalArgumentException" ["java/lang/RuntimeException", "java/lang/Exception"]).filter goodWord := h; revert w; decide +kernel) tq_X6_65.2.2.1 (by decide +kernel) tq_X6_65.2.2.2 dX6_addRight_11 dX6_addRight_14 dX6_addRight_15 dX6_addRight_17 dX6_addRight_20 ⟨Nat.le_of_ble_eq_true rfl, Nat.le_of_ble_eq_true rfl, Nat.le_of_ble_eq_true rfl, Nat.le_of_ble_eq_true rfl⟩ ⟨Nat.le_of_ble_eq_true rfl, Nat.le_of_ble_eq_true rfl⟩ (⟨by rw [sp_addRight, if_neg (fun q => zi_le.mp q.1 c_2)], rfl⟩)
  · skip
    refine zg_iload_n X dX6_addRight_5 rfl ?_
    refine zg_bipush X (v := 9) dX6_addRight_6 (by decide) ?_
    refine zg_icmp_le X dX6_addRight_8 (tgt := 21) (by decide) (fun c_8 => ?_) (fun c_8 => ?_)
    · skip
      refine zg_aload_n X dX6_addRight_21 rfl ?_
      refine zg_iload_n X dX6_addRight_22 rfl ?_
      refine zg_xcallVv X hno (k_X6_requirePerson l hfl D ad T _ hB0 _) zFr.rf gX6_addRight_X6_requirePerson rfl rfl rfl qv_X6_requirePerson rfl ⟨Nat.le_of_ble_eq_true rfl, Nat.le_of_ble_eq_true rfl⟩ (q0 := 0) (ci := 8) rfl rfl rfl (Nat.le_of_ble_eq_true rfl) ⟨Nat.le_of_ble_eq_true rfl, Nat.le_of_ble_eq_true rfl⟩ ⟨Nat.le_of_ble_eq_true rfl, Nat.le_of_ble_eq_true rfl⟩ dX6_addRight_23 (fun E w1 h => ⟨by rw [h.1.1, sp_addRight, if_pos (And.intro (zi_le.mpr c_2) c_8), if_neg h.1.2], h.2⟩) (fun w1 hz9 => ?_)
      obtain ⟨⟨j0, h0, e0⟩, rfl⟩ := hz9
      subst e0
      have k0 : j0 < 2 ^ 31 := by omega
      have p0 : pIn (nI j0) (σ.1 0) := pIn_nI (by omega) h0
      refine zg_aload_n X dX6_addRight_26 rfl ?_
      refine rg_R_rights X f6 l26 dX6_addRight_27 ?_
      refine rg_Rights_count X f5 l149 dX6_addRight_30 ?_
      refine zg_bipush X (v := 10) dX6_addRight_33 (by decide) ?_
      refine zg_icmpn_lt X dX6_addRight_35 (tgt := 48) (by decide) (a := σ.1 2) (b := 10) (by omega) (by omega) (fun c_35 => ?_) (fun c_35 => ?_)
      · skip
        refine zg_aload_n X dX6_addRight_48 rfl ?_
        refine rg_R_rights X f6 l26 dX6_addRight_49 ?_
        refine zg_iload_n X dX6_addRight_52 rfl ?_
        refine zg_iload_n X dX6_addRight_53 rfl ?_
        refine zg_iload_n X dX6_addRight_54 rfl ?_
        refine zg_callVi X (k_X5_add l D ad T _ _ _ _ (by omega) (by rcases hv with rfl | rfl <;> rfl)) zFr.rf gX6_addRight_X5_add rfl rfl rfl qv_X5_add rfl ⟨Nat.le_of_ble_eq_true rfl, Nat.le_of_ble_eq_true rfl⟩ (q0 := 3) (ci := 7) rfl rfl rfl (Nat.le_of_ble_eq_true rfl) ⟨Nat.le_of_ble_eq_true rfl, Nat.le_of_ble_eq_true rfl⟩ dX6_addRight_55 (fun r w1 hz9 => ?_)
        obtain ⟨rfl, rfl⟩ := hz9
        exact zg_x (zg_iret X hr dX6_addRight_58 (Nat.le_of_ble_eq_true rfl) (Nat.le_of_ble_eq_true rfl) (⟨_, by rw [sp_addRight, if_pos (And.intro (zi_le.mpr c_2) c_8), if_pos p0, if_neg (show ¬ σ.1 2 = 10 by omega)] <;> rfl, rfl⟩))
      · skip
        exact zg_throw X hfl (text := "there is no room for another right") hno tq_X6_79.1 tq_X6_79.2.1 l75 (by decide +kernel) (by decide +kernel) (fun w h => by have h : w ∈ (vx_atS RX6 79 "java/lang/IllegalStateException" ["java/lang/RuntimeException", "java/lang/Exception"]).filter goodWord := h; revert w; decide +kernel) tq_X6_79.2.2.1 (by decide +kernel) tq_X6_79.2.2.2 dX6_addRight_38 dX6_addRight_41 dX6_addRight_42 dX6_addRight_44 dX6_addRight_47 ⟨Nat.le_of_ble_eq_true rfl, Nat.le_of_ble_eq_true rfl, Nat.le_of_ble_eq_true rfl, Nat.le_of_ble_eq_true rfl⟩ ⟨Nat.le_of_ble_eq_true rfl, Nat.le_of_ble_eq_true rfl⟩ (⟨by rw [sp_addRight, if_pos (And.intro (zi_le.mpr c_2) c_8), if_pos p0, if_pos (show σ.1 2 = 10 by omega)], rfl⟩)
    · skip
      exact zg_throw X hfl (text := "the sensitivity is out of range") hno tq_X6_65.1 tq_X6_65.2.1 l61 (by decide +kernel) (by decide +kernel) (fun w h => by have h : w ∈ (vx_atS RX6 65 "java/lang/IllegalArgumentException" ["java/lang/RuntimeException", "java/lang/Exception"]).filter goodWord := h; revert w; decide +kernel) tq_X6_65.2.2.1 (by decide +kernel) tq_X6_65.2.2.2 dX6_addRight_11 dX6_addRight_14 dX6_addRight_15 dX6_addRight_17 dX6_addRight_20 ⟨Nat.le_of_ble_eq_true rfl, Nat.le_of_ble_eq_true rfl, Nat.le_of_ble_eq_true rfl, Nat.le_of_ble_eq_true rfl⟩ ⟨Nat.le_of_ble_eq_true rfl, Nat.le_of_ble_eq_true rfl⟩ (⟨by rw [sp_addRight, if_neg (fun q => c_8 q.2)], rfl⟩)

set_option maxHeartbeats 4000000 in
set_option maxRecDepth 100000 in
theorem k_X6_grantPerson (l : Launch) (hfl : l.stackTraces = false) (D : va_G) (ad : Nat → Nat) (T : Nat → ClassId) (σ : ZS) (hI : zI σ) (x y : Int32)  : zMX l yX6_grantPerson wsX6_grantPerson ({ frames := 7, cells := 3, slots := 18, locals := 113 }) D (zT T) [.ref (ad 0), .int x, .int y] (wC ad T σ) 3 18 (qI D (zT T) (fun v w => ∃ s, sp_grantPerson σ x y = .inr (v, s) ∧ w = wC ad T s)) (xE D (zT T) (fun E w => sp_grantPerson σ x y = .inl E ∧ w = wC ad T σ)) := by
  have hB0 := hI.bd
  obtain ⟨b0, b1, b2, b3, b4, b5⟩ := hI.bd
  refine zg_ofx (cc := cX6_grantPerson) (maxL := 3) (ret := (some .int)) (by decide) rfl (Nat.le_of_ble_eq_true rfl) (fun p e s m below meth c A hno hr X => ?_)
  have X : zC p s m _ meth c cX6_grantPerson 3 wsX6_grantPerson RX6 D (zT T) A := X
  have f6 : ∀ w ∈ u_ws RX6 TX6 9, w ∈ wsX6_grantPerson := by decide +kernel
  have f5 : ∀ w ∈ u_ws RX5 TX5 5, w ∈ wsX6_grantPerson := by decide +kernel
  have l162 : Cond.fieldLink RX6 162 "Recertify$Rights" "denied" "[I" ∈ wsX6_grantPerson := by decide +kernel
  have l26 : Cond.fieldLink RX6 26 "Recertify" "rights" "LRecertify$Rights;" ∈ wsX6_grantPerson := by decide +kernel
  have l33 : Cond.fieldLink RX6 33 "Recertify" "grants" "LRecertify$Grants;" ∈ wsX6_grantPerson := by decide +kernel
  have l51 : Cond.fieldLink RX6 51 "Recertify" "day" "I" ∈ wsX6_grantPerson := by decide +kernel
  refine zg_aload_n X dX6_grantPerson_0 rfl ?_
  refine zg_iload_n X dX6_grantPerson_1 rfl ?_
  refine zg_xcallVv X hno (k_X6_requireRight l hfl D ad T _ hB0 _) zFr.rf gX6_grantPerson_X6_requireRight rfl rfl rfl qv_X6_requireRight rfl ⟨Nat.le_of_ble_eq_true rfl, Nat.le_of_ble_eq_true rfl⟩ (q0 := 0) (ci := 8) rfl rfl rfl (Nat.le_of_ble_eq_true rfl) ⟨Nat.le_of_ble_eq_true rfl, Nat.le_of_ble_eq_true rfl⟩ ⟨Nat.le_of_ble_eq_true rfl, Nat.le_of_ble_eq_true rfl⟩ dX6_grantPerson_2 (fun E w1 h => ⟨by rw [h.1.1, sp_grantPerson, if_neg (fun q => h.1.2 q.1)], h.2⟩) (fun w1 hz9 => ?_)
  obtain ⟨⟨j0, h0, e0⟩, rfl⟩ := hz9
  subst e0
  have k0 : j0 < 2 ^ 31 := by omega
  have p0 : pIn (nI j0) (σ.1 2) := pIn_nI (by omega) h0
  refine zg_aload_n X dX6_grantPerson_5 rfl ?_
  refine zg_iload_n X dX6_grantPerson_6 rfl ?_
  refine zg_xcallVv X hno (k_X6_requirePerson l hfl D ad T _ hB0 _) zFr.rf gX6_grantPerson_X6_requirePerson rfl rfl rfl qv_X6_requirePerson rfl ⟨Nat.le_of_ble_eq_true rfl, Nat.le_of_ble_eq_true rfl⟩ (q0 := 0) (ci := 8) rfl rfl rfl (Nat.le_of_ble_eq_true rfl) ⟨Nat.le_of_ble_eq_true rfl, Nat.le_of_ble_eq_true rfl⟩ ⟨Nat.le_of_ble_eq_true rfl, Nat.le_of_ble_eq_true rfl⟩ dX6_grantPerson_7 (fun E w1 h => ⟨by rw [h.1.1, sp_grantPerson, if_neg (fun q => h.1.2 q.2)], h.2⟩) (fun w1 hz9 => ?_)
  obtain ⟨⟨j1, h1, e1⟩, rfl⟩ := hz9
  subst e1
  have k1 : j1 < 2 ^ 31 := by omega
  have p1 : pIn (nI j1) (σ.1 0) := pIn_nI (by omega) h1
  refine zg_aload_n X dX6_grantPerson_10 rfl ?_
  refine zg_iload_n X dX6_grantPerson_11 rfl ?_
  refine zg_iload_n X dX6_grantPerson_12 rfl ?_
  refine zg_iconst X (v := (-1)) dX6_grantPerson_13 (by decide) ?_
  refine zg_xcallVv X hno (k_X6_requireRoomForGrant l hfl D ad T _ hB0 _ _ _) zFr.rf gX6_grantPerson_X6_requireRoomForGrant rfl rfl rfl qv_X6_requireRoomForGrant rfl ⟨Nat.le_of_ble_eq_true rfl, Nat.le_of_ble_eq_true rfl⟩ (q0 := 0) (ci := 8) rfl rfl rfl (Nat.le_of_ble_eq_true rfl) ⟨Nat.le_of_ble_eq_true rfl, Nat.le_of_ble_eq_true rfl⟩ ⟨Nat.le_of_ble_eq_true rfl, Nat.le_of_ble_eq_true rfl⟩ dX6_grantPerson_14 (fun E w1 h => ⟨by rw [h.1.1, sp_grantPerson, if_pos (And.intro p0 p1), if_pos h.1.2], h.2⟩) (fun w1 hz9 => ?_)
  obtain ⟨⟨hn, hlt⟩, rfl⟩ := hz9
  refine zg_aload_n X dX6_grantPerson_17 rfl ?_
  refine rg_R_rights X f6 l26 dX6_grantPerson_18 ?_
  refine rg_Rights_denied X f5 l162 dX6_grantPerson_21 ?_
  refine zg_iload_n X dX6_grantPerson_24 rfl ?_
  refine zg_dup2 X dX6_grantPerson_25 rfl rfl ?_
  refine rlC_denied X (by omega) dX6_grantPerson_26 ?_
  refine zg_iload_n X dX6_grantPerson_27 rfl ?_
  refine zg_callSi X (k_X6_bit l D ad T _ j1) zFr.rf gX6_grantPerson_X6_bit rfl rfl rfl qd_X6_bit rfl ⟨Nat.le_of_ble_eq_true rfl, Nat.le_of_ble_eq_true rfl⟩ rfl (Nat.le_of_ble_eq_true rfl) ⟨Nat.le_of_ble_eq_true rfl, Nat.le_of_ble_eq_true rfl⟩ dX6_grantPerson_28 (fun r w1 hz9 => ?_)
  obtain ⟨rfl, rfl⟩ := hz9
  refine zg_iconst X (v := (-1)) dX6_grantPerson_31 (by decide) ?_
  refine zg_ixor X dX6_grantPerson_32 ?_
  refine zg_iand X dX6_grantPerson_33 ?_
  refine rsC_denied X (by omega) dX6_grantPerson_34 ?_
  refine zg_aload_n X dX6_grantPerson_35 rfl ?_
  refine rg_R_grants X f6 l33 dX6_grantPerson_36 ?_
  refine zg_iload_n X dX6_grantPerson_39 rfl ?_
  refine zg_iload_n X dX6_grantPerson_40 rfl ?_
  refine zg_iconst X (v := (-1)) dX6_grantPerson_41 (by decide) ?_
  refine zg_aload_n X dX6_grantPerson_42 rfl ?_
  refine rg_R_day X f6 l51 dX6_grantPerson_43 ?_
  refine zg_callVi X (k_X2_add l D ad T (uA σ 8 (upd (σ.2.2 8) j0 (σ.2.2 8 j0 &&& (bt1 j1 ^^^ -1)))) _ _ _ _ hlt) zFr.rf gX6_grantPerson_X2_add rfl rfl rfl qv_X2_add rfl ⟨Nat.le_of_ble_eq_true rfl, Nat.le_of_ble_eq_true rfl⟩ (q0 := 4) (ci := 4) rfl rfl rfl (Nat.le_of_ble_eq_true rfl) ⟨Nat.le_of_ble_eq_true rfl, Nat.le_of_ble_eq_true rfl⟩ dX6_grantPerson_46 (fun r w1 hz9 => ?_)
  obtain ⟨rfl, rfl⟩ := hz9
  exact zg_x (zg_iret X hr dX6_grantPerson_49 (Nat.le_of_ble_eq_true rfl) (Nat.le_of_ble_eq_true rfl) (⟨gNew (uA σ 8 (upd (σ.2.2 8) j0 (σ.2.2 8 j0 &&& (bt1 j1 ^^^ -1)))) (nI j0) (nI j1) (-1) (nI j1) 0, by rw [sp_grantPerson, if_pos (And.intro p0 p1), if_neg (fun q => q.elim hn (by omega)), ix_nI k0, ix_nI k1] <;> rfl, wC_gNew.symm⟩))

set_option maxHeartbeats 4000000 in
set_option maxRecDepth 100000 in
theorem k_X6_grantGroup (l : Launch) (hfl : l.stackTraces = false) (D : va_G) (ad : Nat → Nat) (T : Nat → ClassId) (σ : ZS) (hI : zI σ) (x y : Int32)  : zMX l yX6_grantGroup wsX6_grantGroup ({ frames := 7, cells := 3, slots := 18, locals := 113 }) D (zT T) [.ref (ad 0), .int x, .int y] (wC ad T σ) 3 18 (qI D (zT T) (fun v w => ∃ s, sp_grantGroup σ x y = .inr (v, s) ∧ w = wC ad T s)) (xE D (zT T) (fun E w => sp_grantGroup σ x y = .inl E ∧ w = wC ad T σ)) := by
  have hB0 := hI.bd
  obtain ⟨b0, b1, b2, b3, b4, b5⟩ := hI.bd
  refine zg_ofx (cc := cX6_grantGroup) (maxL := 3) (ret := (some .int)) (by decide) rfl (Nat.le_of_ble_eq_true rfl) (fun p e s m below meth c A hno hr X => ?_)
  have X : zC p s m _ meth c cX6_grantGroup 3 wsX6_grantGroup RX6 D (zT T) A := X
  have f6 : ∀ w ∈ u_ws RX6 TX6 9, w ∈ wsX6_grantGroup := by decide +kernel
  have l33 : Cond.fieldLink RX6 33 "Recertify" "grants" "LRecertify$Grants;" ∈ wsX6_grantGroup := by decide +kernel
  have l51 : Cond.fieldLink RX6 51 "Recertify" "day" "I" ∈ wsX6_grantGroup := by decide +kernel
  refine zg_aload_n X dX6_grantGroup_0 rfl ?_
  refine zg_iload_n X dX6_grantGroup_1 rfl ?_
  refine zg_xcallVv X hno (k_X6_requireRight l hfl D ad T _ hB0 _) zFr.rf gX6_grantGroup_X6_requireRight rfl rfl rfl qv_X6_requireRight rfl ⟨Nat.le_of_ble_eq_true rfl, Nat.le_of_ble_eq_true rfl⟩ (q0 := 0) (ci := 8) rfl rfl rfl (Nat.le_of_ble_eq_true rfl) ⟨Nat.le_of_ble_eq_true rfl, Nat.le_of_ble_eq_true rfl⟩ ⟨Nat.le_of_ble_eq_true rfl, Nat.le_of_ble_eq_true rfl⟩ dX6_grantGroup_2 (fun E w1 h => ⟨by rw [h.1.1, sp_grantGroup, if_neg (fun q => h.1.2 q.1)], h.2⟩) (fun w1 hz9 => ?_)
  obtain ⟨⟨j0, h0, e0⟩, rfl⟩ := hz9
  subst e0
  have k0 : j0 < 2 ^ 31 := by omega
  have p0 : pIn (nI j0) (σ.1 2) := pIn_nI (by omega) h0
  refine zg_aload_n X dX6_grantGroup_5 rfl ?_
  refine zg_iload_n X dX6_grantGroup_6 rfl ?_
  refine zg_xcallVv X hno (k_X6_requireGroup l hfl D ad T _ hB0 _) zFr.rf gX6_grantGroup_X6_requireGroup rfl rfl rfl qv_X6_requireGroup rfl ⟨Nat.le_of_ble_eq_true rfl, Nat.le_of_ble_eq_true rfl⟩ (q0 := 0) (ci := 8) rfl rfl rfl (Nat.le_of_ble_eq_true rfl) ⟨Nat.le_of_ble_eq_true rfl, Nat.le_of_ble_eq_true rfl⟩ ⟨Nat.le_of_ble_eq_true rfl, Nat.le_of_ble_eq_true rfl⟩ dX6_grantGroup_7 (fun E w1 h => ⟨by rw [h.1.1, sp_grantGroup, if_neg (fun q => h.1.2 q.2)], h.2⟩) (fun w1 hz9 => ?_)
  obtain ⟨⟨j1, h1, e1⟩, rfl⟩ := hz9
  subst e1
  have k1 : j1 < 2 ^ 31 := by omega
  have p1 : pIn (nI j1) (σ.1 1) := pIn_nI (by omega) h1
  refine zg_aload_n X dX6_grantGroup_10 rfl ?_
  refine zg_iload_n X dX6_grantGroup_11 rfl ?_
  refine zg_iconst X (v := (-1)) dX6_grantGroup_12 (by decide) ?_
  refine zg_iload_n X dX6_grantGroup_13 rfl ?_
  refine zg_xcallVv X hno (k_X6_requireRoomForGrant l hfl D ad T _ hB0 _ _ _) zFr.rf gX6_grantGroup_X6_requireRoomForGrant rfl rfl rfl qv_X6_requireRoomForGrant rfl ⟨Nat.le_of_ble_eq_true rfl, Nat.le_of_ble_eq_true rfl⟩ (q0 := 0) (ci := 8) rfl rfl rfl (Nat.le_of_ble_eq_true rfl) ⟨Nat.le_of_ble_eq_true rfl, Nat.le_of_ble_eq_true rfl⟩ ⟨Nat.le_of_ble_eq_true rfl, Nat.le_of_ble_eq_true rfl⟩ dX6_grantGroup_14 (fun E w1 h => ⟨by rw [h.1.1, sp_grantGroup, if_pos (And.intro p0 p1), if_pos h.1.2], h.2⟩) (fun w1 hz9 => ?_)
  obtain ⟨⟨hn, hlt⟩, rfl⟩ := hz9
  refine zg_aload_n X dX6_grantGroup_17 rfl ?_
  refine rg_R_grants X f6 l33 dX6_grantGroup_18 ?_
  refine zg_iload_n X dX6_grantGroup_21 rfl ?_
  refine zg_iconst X (v := (-1)) dX6_grantGroup_22 (by decide) ?_
  refine zg_iload_n X dX6_grantGroup_23 rfl ?_
  refine zg_aload_n X dX6_grantGroup_24 rfl ?_
  refine rg_R_day X f6 l51 dX6_grantGroup_25 ?_
  refine zg_callVi X (k_X2_add l D ad T _ _ _ _ _ hlt) zFr.rf gX6_grantGroup_X2_add rfl rfl rfl qv_X2_add rfl ⟨Nat.le_of_ble_eq_true rfl, Nat.le_of_ble_eq_true rfl⟩ (q0 := 4) (ci := 4) rfl rfl rfl (Nat.le_of_ble_eq_true rfl) ⟨Nat.le_of_ble_eq_true rfl, Nat.le_of_ble_eq_true rfl⟩ dX6_grantGroup_28 (fun r w1 hz9 => ?_)
  obtain ⟨rfl, rfl⟩ := hz9
  exact zg_x (zg_iret X hr dX6_grantGroup_31 (Nat.le_of_ble_eq_true rfl) (Nat.le_of_ble_eq_true rfl) (⟨gNew σ (nI j0) (-1) (nI j1) (nI j1) 1, by rw [sp_grantGroup, if_pos (And.intro p0 p1), if_neg (fun q => q.elim hn (by omega))] <;> rfl, wC_gNew.symm⟩))

set_option maxHeartbeats 4000000 in
set_option maxRecDepth 100000 in
theorem k_X6_use (l : Launch) (hfl : l.stackTraces = false) (D : va_G) (ad : Nat → Nat) (T : Nat → ClassId) (σ : ZS) (hI : zI σ) (x y : Int32)  : zMX l yX6_use wsX6_use ({ frames := 7, cells := 3, slots := 18, locals := 111 }) D (zT T) [.ref (ad 0), .int x, .int y] (wC ad T σ) 3 18 (qI D (zT T) (fun v w => ∃ s, sp_use σ x y = .inr (v, s) ∧ w = wC ad T s)) (xE D (zT T) (fun E w => sp_use σ x y = .inl E ∧ w = wC ad T σ)) := by
  have hB0 := hI.bd
  obtain ⟨b0, b1, b2, b3, b4, b5⟩ := hI.bd
  refine zg_ofx (cc := cX6_use) (maxL := 5) (ret := (some .int)) (by decide) rfl (Nat.le_of_ble_eq_true rfl) (fun p e s m below meth c A hno hr X => ?_)
  have X : zC p s m _ meth c cX6_use 5 wsX6_use RX6 D (zT T) A := X
  have f6 : ∀ w ∈ u_ws RX6 TX6 9, w ∈ wsX6_use := by decide +kernel
  have f2 : ∀ w ∈ u_ws RX2 TX2 7, w ∈ wsX6_use := by decide +kernel
  have l173 : Cond.fieldLink RX6 173 "Recertify$Grants" "count" "I" ∈ wsX6_use := by decide +kernel
  have l180 : Cond.fieldLink RX6 180 "Recertify$Grants" "lastUses" "[I" ∈ wsX6_use := by decide +kernel
  have l33 : Cond.fieldLink RX6 33 "Recertify" "grants" "LRecertify$Grants;" ∈ wsX6_use := by decide +kernel
  have l51 : Cond.fieldLink RX6 51 "Recertify" "day" "I" ∈ wsX6_use := by decide +kernel
  have l75 : Cond.classLink RX6 75 "java/lang/IllegalStateException" ∈ wsX6_use := by decide +kernel
  refine zg_aload_n X dX6_use_0 rfl ?_
  refine zg_iload_n X dX6_use_1 rfl ?_
  refine zg_xcallVv X hno (k_X6_requirePerson l hfl D ad T _ hB0 _) zFr.rf gX6_use_X6_requirePerson rfl rfl rfl qv_X6_requirePerson rfl ⟨Nat.le_of_ble_eq_true rfl, Nat.le_of_ble_eq_true rfl⟩ (q0 := 0) (ci := 8) rfl rfl rfl (Nat.le_of_ble_eq_true rfl) ⟨Nat.le_of_ble_eq_true rfl, Nat.le_of_ble_eq_true rfl⟩ ⟨Nat.le_of_ble_eq_true rfl, Nat.le_of_ble_eq_true rfl⟩ dX6_use_2 (fun E w1 h => ⟨by rw [h.1.1, sp_use, if_neg (fun q => h.1.2 q.1)], h.2⟩) (fun w1 hz9 => ?_)
  obtain ⟨⟨j0, h0, e0⟩, rfl⟩ := hz9
  subst e0
  have k0 : j0 < 2 ^ 31 := by omega
  have p0 : pIn (nI j0) (σ.1 0) := pIn_nI (by omega) h0
  refine zg_aload_n X dX6_use_5 rfl ?_
  refine zg_iload_n X dX6_use_6 rfl ?_
  refine zg_xcallVv X hno (k_X6_requireRight l hfl D ad T _ hB0 _) zFr.rf gX6_use_X6_requireRight rfl rfl rfl qv_X6_requireRight rfl ⟨Nat.le_of_ble_eq_true rfl, Nat.le_of_ble_eq_true rfl⟩ (q0 := 0) (ci := 8) rfl rfl rfl (Nat.le_of_ble_eq_true rfl) ⟨Nat.le_of_ble_eq_true rfl, Nat.le_of_ble_eq_true rfl⟩ ⟨Nat.le_of_ble_eq_true rfl, Nat.le_of_ble_eq_true rfl⟩ dX6_use_7 (fun E w1 h => ⟨by rw [h.1.1, sp_use, if_neg (fun q => h.1.2 q.2)], h.2⟩) (fun w1 hz9 => ?_)
  obtain ⟨⟨j1, h1, e1⟩, rfl⟩ := hz9
  subst e1
  have k1 : j1 < 2 ^ 31 := by omega
  have p1 : pIn (nI j1) (σ.1 2) := pIn_nI (by omega) h1
  refine zg_aload_n X dX6_use_10 rfl ?_
  refine zg_iload_n X dX6_use_11 rfl ?_
  refine zg_iconst X (v := (-1)) dX6_use_12 (by decide) ?_
  refine zg_callVi X (k_X6_findHolders l D ad T _ hI j1 (by omega) (-1)) zFr.rf gX6_use_X6_findHolders rfl rfl rfl qv_X6_findHolders rfl ⟨Nat.le_of_ble_eq_true rfl, Nat.le_of_ble_eq_true rfl⟩ (q0 := 0) (ci := 8) rfl rfl rfl (Nat.le_of_ble_eq_true rfl) ⟨Nat.le_of_ble_eq_true rfl, Nat.le_of_ble_eq_true rfl⟩ dX6_use_13 (fun r w1 hz9 => ?_)
  obtain ⟨rfl, rfl⟩ := hz9
  refine zg_iload_n X dX6_use_16 rfl ?_
  refine zg_callSi X (k_X6_contains l D ad T _ _ j0) zFr.rf gX6_use_X6_contains rfl rfl rfl qd_X6_contains rfl ⟨Nat.le_of_ble_eq_true rfl, Nat.le_of_ble_eq_true rfl⟩ rfl (Nat.le_of_ble_eq_true rfl) ⟨Nat.le_of_ble_eq_true rfl, Nat.le_of_ble_eq_true rfl⟩ dX6_use_17 (fun r w1 hz9 => ?_)
  obtain ⟨rfl, rfl⟩ := hz9
  refine zg_if_neb X dX6_use_20 (tgt := 33) (by decide) (fun c_20 => ?_) (fun c_20 => ?_)
  · skip
    refine zg_iconst X (v := 0) dX6_use_33 (by decide) ?_
    refine zg_istore_n X dX6_use_34 (by decide) ?_
    refine zg_iconst X (v := 0) dX6_use_35 (by decide) ?_
    refine zg_istore X dX6_use_36 (by decide) ?_
    have LP38 : ∀ (fu : Nat) (i : Nat) (ct : Int32) (us : Nat → Int32), σ.1 3 + 1 ≤ i + fu → i ≤ σ.1 3 → (ct, us) = fN (useF σ j0 j1) (0, σ.2.2 13) i → zG p l e (headSpec wsX6_use ({ frames := 7, cells := 3, slots := 18, locals := 111 })).room s m [.ref (ad 0), .int (nI j0), .int (nI j1)].toArray below meth c D 5 A 2 12 (vx_MQ below (qI D (zT T) (fun v w => ∃ s, sp_use σ (nI j0) (nI j1) = .inr (v, s) ∧ w = wC ad T s) A) (xE D (zT T) (fun E w => sp_use σ (nI j0) (nI j1) = .inl E ∧ w = wC ad T σ) A) [.ref (ad 0), .int (nI j0), .int (nI j1)].toArray s 3 18 A) (wC ad T (uA σ 13 us)) 38 [(0, .ref (ad 0)), (1, .int (nI j0)), (2, .int (nI j1)), (3, .int ct), (4, .int (nI i))] [] := by
      intro fu
      induction fu with
      | zero => intro i ct us hfu hii _; exact absurd hfu (by omega)
      | succ fu ih38 =>
        intro i ct us hfu hii hb
        refine zg_iload X dX6_use_38 rfl ?_
        refine zg_aload_n X dX6_use_40 rfl ?_
        refine rg_R_grants X f6 l33 dX6_use_41 ?_
        refine rg_Grants_count X f2 l173 dX6_use_44 ?_
        refine zg_icmpn_ge X dX6_use_47 (tgt := 99) (by decide) (a := i) (b := σ.1 3) (by omega) (by omega) (fun c_47 => ?_) (fun c_47 => ?_)
        · skip
          refine zg_iload_n X dX6_use_99 rfl ?_
          exact zg_x (zg_iret X hr dX6_use_100 (Nat.le_of_ble_eq_true rfl) (Nat.le_of_ble_eq_true rfl) (⟨_, by rw [sp_use, if_pos (And.intro p0 p1), ix_nI k0, ix_nI k1, if_pos c_20, useI, show σ.1 3 = i by omega, ← hb] <;> rfl, rfl⟩))
        · skip
          refine zg_aload_n X dX6_use_50 rfl ?_
          refine rg_R_grants X f6 l33 dX6_use_51 ?_
          refine zg_iload X dX6_use_54 rfl ?_
          refine zg_iload_n X dX6_use_56 rfl ?_
          refine zg_callVi X (k_X2_isActiveOf l D ad T _ i (by omega) (nI j1)) zFr.rf gX6_use_X2_isActiveOf rfl rfl rfl qv_X2_isActiveOf rfl ⟨Nat.le_of_ble_eq_true rfl, Nat.le_of_ble_eq_true rfl⟩ (q0 := 4) (ci := 4) rfl rfl rfl (Nat.le_of_ble_eq_true rfl) ⟨Nat.le_of_ble_eq_true rfl, Nat.le_of_ble_eq_true rfl⟩ dX6_use_57 (fun r w1 hz9 => ?_)
          obtain ⟨rfl, rfl⟩ := hz9
          refine zg_if_eqb X dX6_use_60 (tgt := 93) (by decide) (fun c_60 => ?_) (fun c_60 => ?_)
          · skip
            refine zg_iinc1 X dX6_use_93 (by decide) rfl ?_
            refine zg_goto X dX6_use_96 (tgt := 38) (by decide) ?_
            skip
            exact zg_lv (by exact ⟨rfl, rfl, rfl, rfl, rfl, trivial⟩) (ih38 (i + 1) _ us (by omega) (by omega) (by rw [fN, ← hb, useF]; exact (if_neg (fun h => c_60 h.1)).symm))
          · skip
            refine zg_aload_n X dX6_use_63 rfl ?_
            refine zg_iload X dX6_use_64 rfl ?_
            refine zg_callVi X (k_X6_findReached l D ad T _ hI.u13 i (show i < σ.1 3 by omega)) zFr.rf gX6_use_X6_findReached rfl rfl rfl qv_X6_findReached rfl ⟨Nat.le_of_ble_eq_true rfl, Nat.le_of_ble_eq_true rfl⟩ (q0 := 0) (ci := 8) rfl rfl rfl (Nat.le_of_ble_eq_true rfl) ⟨Nat.le_of_ble_eq_true rfl, Nat.le_of_ble_eq_true rfl⟩ dX6_use_66 (fun r w1 hz9 => ?_)
            obtain ⟨rfl, rfl⟩ := hz9
            refine zg_top (v' := reachI σ i) rfl ?_
            refine zg_iload_n X dX6_use_69 rfl ?_
            refine zg_callSi X (k_X6_contains l D ad T _ _ j0) zFr.rf gX6_use_X6_contains rfl rfl rfl qd_X6_contains rfl ⟨Nat.le_of_ble_eq_true rfl, Nat.le_of_ble_eq_true rfl⟩ rfl (Nat.le_of_ble_eq_true rfl) ⟨Nat.le_of_ble_eq_true rfl, Nat.le_of_ble_eq_true rfl⟩ dX6_use_70 (fun r w1 hz9 => ?_)
            obtain ⟨rfl, rfl⟩ := hz9
            refine zg_if_eqb X dX6_use_73 (tgt := 93) (by decide) (fun c_73 => ?_) (fun c_73 => ?_)
            · skip
              refine zg_iinc1 X dX6_use_93 (by decide) rfl ?_
              refine zg_goto X dX6_use_96 (tgt := 38) (by decide) ?_
              skip
              exact zg_lv (by exact ⟨rfl, rfl, rfl, rfl, rfl, trivial⟩) (ih38 (i + 1) _ us (by omega) (by omega) (by rw [fN, ← hb, useF]; exact (if_neg (fun h => c_73 h.2)).symm))
            · skip
              refine zg_aload_n X dX6_use_76 rfl ?_
              refine rg_R_grants X f6 l33 dX6_use_77 ?_
              refine rg_Grants_lastUses X f2 l180 dX6_use_80 ?_
              refine zg_iload X dX6_use_83 rfl ?_
              refine zg_aload_n X dX6_use_85 rfl ?_
              refine rg_R_day X f6 l51 dX6_use_86 ?_
              refine rsC_used X (by omega) dX6_use_89 ?_
              refine zg_iinc X dX6_use_90 (by decide) rfl (show _ + Int32.ofInt 1 = _ + 1 from rfl) ?_
              refine zg_iinc1 X dX6_use_93 (by decide) rfl ?_
              refine zg_goto X dX6_use_96 (tgt := 38) (by decide) ?_
              refine zg_w (w' := wC ad T (uA σ 13 (upd us i (σ.2.1 0)))) rfl ?_
              exact zg_lv (by exact ⟨rfl, rfl, rfl, rfl, rfl, trivial⟩) (ih38 (i + 1) _ (upd us i (σ.2.1 0)) (by omega) (by omega) (by rw [fN, ← hb, useF]; exact (if_pos ⟨c_60, c_73⟩).symm))
    refine zg_w (w' := wC ad T (uA σ 13 (σ.2.2 13))) rfl ?_
    exact zg_lv (by exact ⟨rfl, rfl, rfl, rfl, rfl, trivial⟩) (LP38 (σ.1 3 + 1) 0 _ (σ.2.2 13) (by omega) (by omega) rfl)
  · skip
    exact zg_throw X hfl (text := "the person does not hold the right") hno tq_X6_79.1 tq_X6_79.2.1 l75 (by decide +kernel) (by decide +kernel) (fun w h => by have h : w ∈ (vx_atS RX6 79 "java/lang/IllegalStateException" ["java/lang/RuntimeException", "java/lang/Exception"]).filter goodWord := h; revert w; decide +kernel) tq_X6_79.2.2.1 (by decide +kernel) tq_X6_79.2.2.2 dX6_use_23 dX6_use_26 dX6_use_27 dX6_use_29 dX6_use_32 ⟨Nat.le_of_ble_eq_true rfl, Nat.le_of_ble_eq_true rfl, Nat.le_of_ble_eq_true rfl, Nat.le_of_ble_eq_true rfl⟩ ⟨Nat.le_of_ble_eq_true rfl, Nat.le_of_ble_eq_true rfl⟩ (⟨by rw [sp_use, if_pos (And.intro p0 p1), ix_nI k0, ix_nI k1, if_neg c_20], rfl⟩)

set_option maxHeartbeats 4000000 in
set_option maxRecDepth 100000 in
theorem k_X6_setLimit (l : Launch) (hfl : l.stackTraces = false) (D : va_G) (ad : Nat → Nat) (T : Nat → ClassId) (σ : ZS) (hI : zI σ) (x : Int32)  : zMX l yX6_setLimit wsX6_setLimit ({ frames := 6, cells := 1, slots := 6, locals := 90 }) D (zT T) [.ref (ad 0), .int x] (wC ad T σ) 1 6 (qI D (zT T) (fun v w => ∃ s, sp_setLimit σ x = .inr (v, s) ∧ w = wC ad T s)) (xE D (zT T) (fun E w => sp_setLimit σ x = .inl E ∧ w = wC ad T σ)) := by
  have hB0 := hI.bd
  obtain ⟨b0, b1, b2, b3, b4, b5⟩ := hI.bd
  refine zg_ofx (cc := cX6_setLimit) (maxL := 3) (ret := (some .int)) (by decide) rfl (Nat.le_of_ble_eq_true rfl) (fun p e s m below meth c A hno hr X => ?_)
  have X : zC p s m _ meth c cX6_setLimit 3 wsX6_setLimit RX6 D (zT T) A := X
  have f6 : ∀ w ∈ u_ws RX6 TX6 9, w ∈ wsX6_setLimit := by decide +kernel
  have l55 : Cond.fieldLink RX6 55 "Recertify" "limit" "I" ∈ wsX6_setLimit := by decide +kernel
  have l61 : Cond.classLink RX6 61 "java/lang/IllegalArgumentException" ∈ wsX6_setLimit := by decide +kernel
  refine zg_iload_n X dX6_setLimit_0 rfl ?_
  refine zg_if_lt X dX6_setLimit_1 (tgt := 11) (by decide) (fun c_1 => ?_) (fun c_1 => ?_)
  · skip
    exact zg_throw X hfl (text := "the limit is out of range") hno tq_X6_65.1 tq_X6_65.2.1 l61 (by decide +kernel) (by decide +kernel) (fun w h => by have h : w ∈ (vx_atS RX6 65 "java/lang/IllegalArgumentException" ["java/lang/RuntimeException", "java/lang/Exception"]).filter goodWord := h; revert w; decide +kernel) tq_X6_65.2.2.1 (by decide +kernel) tq_X6_65.2.2.2 dX6_setLimit_11 dX6_setLimit_14 dX6_setLimit_15 dX6_setLimit_17 dX6_setLimit_20 ⟨Nat.le_of_ble_eq_true rfl, Nat.le_of_ble_eq_true rfl, Nat.le_of_ble_eq_true rfl, Nat.le_of_ble_eq_true rfl⟩ ⟨Nat.le_of_ble_eq_true rfl, Nat.le_of_ble_eq_true rfl⟩ (⟨by rw [sp_setLimit, if_neg (fun q => zi_le.mp q.1 c_1)], rfl⟩)
  · skip
    refine zg_iload_n X dX6_setLimit_4 rfl ?_
    refine zg_sipush X (v := 999) dX6_setLimit_5 (by decide) ?_
    refine zg_icmp_le X dX6_setLimit_8 (tgt := 21) (by decide) (fun c_8 => ?_) (fun c_8 => ?_)
    · skip
      refine zg_aload_n X dX6_setLimit_21 rfl ?_
      refine rg_R_limit X f6 l55 dX6_setLimit_22 ?_
      refine zg_istore_n X dX6_setLimit_25 (by decide) ?_
      refine zg_aload_n X dX6_setLimit_26 rfl ?_
      refine zg_iload_n X dX6_setLimit_27 rfl ?_
      refine rp_R_limit X f6 l55 dX6_setLimit_28 ?_
      refine zg_iload_n X dX6_setLimit_31 rfl ?_
      exact zg_x (zg_iret X hr dX6_setLimit_32 (Nat.le_of_ble_eq_true rfl) (Nat.le_of_ble_eq_true rfl) (⟨_, by rw [sp_setLimit, if_pos (And.intro (zi_le.mpr c_1) c_8)] <;> rfl, rfl⟩))
    · skip
      exact zg_throw X hfl (text := "the limit is out of range") hno tq_X6_65.1 tq_X6_65.2.1 l61 (by decide +kernel) (by decide +kernel) (fun w h => by have h : w ∈ (vx_atS RX6 65 "java/lang/IllegalArgumentException" ["java/lang/RuntimeException", "java/lang/Exception"]).filter goodWord := h; revert w; decide +kernel) tq_X6_65.2.2.1 (by decide +kernel) tq_X6_65.2.2.2 dX6_setLimit_11 dX6_setLimit_14 dX6_setLimit_15 dX6_setLimit_17 dX6_setLimit_20 ⟨Nat.le_of_ble_eq_true rfl, Nat.le_of_ble_eq_true rfl, Nat.le_of_ble_eq_true rfl, Nat.le_of_ble_eq_true rfl⟩ ⟨Nat.le_of_ble_eq_true rfl, Nat.le_of_ble_eq_true rfl⟩ (⟨by rw [sp_setLimit, if_neg (fun q => c_8 q.2)], rfl⟩)

set_option maxHeartbeats 4000000 in
set_option maxRecDepth 100000 in
theorem k_X6_setGrace (l : Launch) (hfl : l.stackTraces = false) (D : va_G) (ad : Nat → Nat) (T : Nat → ClassId) (σ : ZS) (hI : zI σ) (x : Int32)  : zMX l yX6_setGrace wsX6_setGrace ({ frames := 6, cells := 1, slots := 6, locals := 90 }) D (zT T) [.ref (ad 0), .int x] (wC ad T σ) 1 6 (qI D (zT T) (fun v w => ∃ s, sp_setGrace σ x = .inr (v, s) ∧ w = wC ad T s)) (xE D (zT T) (fun E w => sp_setGrace σ x = .inl E ∧ w = wC ad T σ)) := by
  have hB0 := hI.bd
  obtain ⟨b0, b1, b2, b3, b4, b5⟩ := hI.bd
  refine zg_ofx (cc := cX6_setGrace) (maxL := 3) (ret := (some .int)) (by decide) rfl (Nat.le_of_ble_eq_true rfl) (fun p e s m below meth c A hno hr X => ?_)
  have X : zC p s m _ meth c cX6_setGrace 3 wsX6_setGrace RX6 D (zT T) A := X
  have f6 : ∀ w ∈ u_ws RX6 TX6 9, w ∈ wsX6_setGrace := by decide +kernel
  have l58 : Cond.fieldLink RX6 58 "Recertify" "grace" "I" ∈ wsX6_setGrace := by decide +kernel
  have l61 : Cond.classLink RX6 61 "java/lang/IllegalArgumentException" ∈ wsX6_setGrace := by decide +kernel
  refine zg_iload_n X dX6_setGrace_0 rfl ?_
  refine zg_if_lt X dX6_setGrace_1 (tgt := 10) (by decide) (fun c_1 => ?_) (fun c_1 => ?_)
  · skip
    exact zg_throw X hfl (text := "the number of days is out of range") hno tq_X6_65.1 tq_X6_65.2.1 l61 (by decide +kernel) (by decide +kernel) (fun w h => by have h : w ∈ (vx_atS RX6 65 "java/lang/IllegalArgumentException" ["java/lang/RuntimeException", "java/lang/Exception"]).filter goodWord := h; revert w; decide +kernel) tq_X6_65.2.2.1 (by decide +kernel) tq_X6_65.2.2.2 dX6_setGrace_10 dX6_setGrace_13 dX6_setGrace_14 dX6_setGrace_16 dX6_setGrace_19 ⟨Nat.le_of_ble_eq_true rfl, Nat.le_of_ble_eq_true rfl, Nat.le_of_ble_eq_true rfl, Nat.le_of_ble_eq_true rfl⟩ ⟨Nat.le_of_ble_eq_true rfl, Nat.le_of_ble_eq_true rfl⟩ (⟨by rw [sp_setGrace, if_neg (fun q => zi_le.mp q.1 c_1)], rfl⟩)
  · skip
    refine zg_iload_n X dX6_setGrace_4 rfl ?_
    refine zg_bipush X (v := 10) dX6_setGrace_5 (by decide) ?_
    refine zg_icmp_le X dX6_setGrace_7 (tgt := 20) (by decide) (fun c_7 => ?_) (fun c_7 => ?_)
    · skip
      refine zg_aload_n X dX6_setGrace_20 rfl ?_
      refine rg_R_grace X f6 l58 dX6_setGrace_21 ?_
      refine zg_istore_n X dX6_setGrace_24 (by decide) ?_
      refine zg_aload_n X dX6_setGrace_25 rfl ?_
      refine zg_iload_n X dX6_setGrace_26 rfl ?_
      refine rp_R_grace X f6 l58 dX6_setGrace_27 ?_
      refine zg_iload_n X dX6_setGrace_30 rfl ?_
      exact zg_x (zg_iret X hr dX6_setGrace_31 (Nat.le_of_ble_eq_true rfl) (Nat.le_of_ble_eq_true rfl) (⟨_, by rw [sp_setGrace, if_pos (And.intro (zi_le.mpr c_1) c_7)] <;> rfl, rfl⟩))
    · skip
      exact zg_throw X hfl (text := "the number of days is out of range") hno tq_X6_65.1 tq_X6_65.2.1 l61 (by decide +kernel) (by decide +kernel) (fun w h => by have h : w ∈ (vx_atS RX6 65 "java/lang/IllegalArgumentException" ["java/lang/RuntimeException", "java/lang/Exception"]).filter goodWord := h; revert w; decide +kernel) tq_X6_65.2.2.1 (by decide +kernel) tq_X6_65.2.2.2 dX6_setGrace_10 dX6_setGrace_13 dX6_setGrace_14 dX6_setGrace_16 dX6_setGrace_19 ⟨Nat.le_of_ble_eq_true rfl, Nat.le_of_ble_eq_true rfl, Nat.le_of_ble_eq_true rfl, Nat.le_of_ble_eq_true rfl⟩ ⟨Nat.le_of_ble_eq_true rfl, Nat.le_of_ble_eq_true rfl⟩ (⟨by rw [sp_setGrace, if_neg (fun q => c_7 q.2)], rfl⟩)

set_option maxHeartbeats 4000000 in
set_option maxRecDepth 100000 in
theorem k_X6_openCampaign (l : Launch) (hfl : l.stackTraces = false) (D : va_G) (ad : Nat → Nat) (T : Nat → ClassId) (σ : ZS) (hI : zI σ) (x : Int32) (h6 : σ.1 6 < 2 ^ 31) : zMX l yX6_openCampaign wsX6_openCampaign ({ frames := 7, cells := 2, slots := 12, locals := 111 }) D (zT T) [.ref (ad 0), .int x] (wC ad T σ) 2 12 (qI D (zT T) (fun v w => ∃ s, sp_openCampaign σ x = .inr (v, s) ∧ w = wC ad T s)) (xE D (zT T) (fun E w => sp_openCampaign σ x = .inl E ∧ w = wC ad T σ)) := by
  have hB0 := hI.bd
  obtain ⟨b0, b1, b2, b3, b4, b5⟩ := hI.bd
  refine zg_ofx (cc := cX6_openCampaign) (maxL := 3) (ret := (some .int)) (by decide) rfl (Nat.le_of_ble_eq_true rfl) (fun p e s m below meth c A hno hr X => ?_)
  have X : zC p s m _ meth c cX6_openCampaign 3 wsX6_openCampaign RX6 D (zT T) A := X
  have f6 : ∀ w ∈ u_ws RX6 TX6 9, w ∈ wsX6_openCampaign := by decide +kernel
  have f0 : ∀ w ∈ u_ws RX0 TX0 8, w ∈ wsX6_openCampaign := by decide +kernel
  have f2 : ∀ w ∈ u_ws RX2 TX2 7, w ∈ wsX6_openCampaign := by decide +kernel
  have l173 : Cond.fieldLink RX6 173 "Recertify$Grants" "count" "I" ∈ wsX6_openCampaign := by decide +kernel
  have l186 : Cond.fieldLink RX6 186 "Recertify$Grants" "states" "[C" ∈ wsX6_openCampaign := by decide +kernel
  have l241 : Cond.fieldLink RX6 241 "Recertify$Campaign" "undecided" "I" ∈ wsX6_openCampaign := by decide +kernel
  have l271 : Cond.fieldLink RX6 271 "Recertify$Campaign" "count" "I" ∈ wsX6_openCampaign := by decide +kernel
  have l33 : Cond.fieldLink RX6 33 "Recertify" "grants" "LRecertify$Grants;" ∈ wsX6_openCampaign := by decide +kernel
  have l40 : Cond.fieldLink RX6 40 "Recertify" "campaign" "LRecertify$Campaign;" ∈ wsX6_openCampaign := by decide +kernel
  have l51 : Cond.fieldLink RX6 51 "Recertify" "day" "I" ∈ wsX6_openCampaign := by decide +kernel
  have l75 : Cond.classLink RX6 75 "java/lang/IllegalStateException" ∈ wsX6_openCampaign := by decide +kernel
  refine zg_aload_n X dX6_openCampaign_0 rfl ?_
  refine zg_iload_n X dX6_openCampaign_1 rfl ?_
  refine zg_xcallVv X hno (k_X6_requireDays l hfl D ad T _ _) zFr.rf gX6_openCampaign_X6_requireDays rfl rfl rfl qv_X6_requireDays rfl ⟨Nat.le_of_ble_eq_true rfl, Nat.le_of_ble_eq_true rfl⟩ (q0 := 0) (ci := 8) rfl rfl rfl (Nat.le_of_ble_eq_true rfl) ⟨Nat.le_of_ble_eq_true rfl, Nat.le_of_ble_eq_true rfl⟩ ⟨Nat.le_of_ble_eq_true rfl, Nat.le_of_ble_eq_true rfl⟩ dX6_openCampaign_2 (fun E w1 h => ⟨by rw [h.1.1, sp_openCampaign, if_neg h.1.2], h.2⟩) (fun w1 hz9 => ?_)
  obtain ⟨hd, rfl⟩ := hz9
  refine zg_aload_n X dX6_openCampaign_5 rfl ?_
  refine rg_R_campaign X f6 l40 dX6_openCampaign_6 ?_
  refine rg_Campaign_undecided X f0 l241 dX6_openCampaign_9 ?_
  refine zg_ifn_le X dX6_openCampaign_12 (tgt := 26) (by decide) (by omega) (fun c_12 => ?_) (fun c_12 => ?_)
  · skip
    refine zg_aload_n X dX6_openCampaign_26 rfl ?_
    refine rg_R_grants X f6 l33 dX6_openCampaign_27 ?_
    refine zg_bipush X (v := 97) dX6_openCampaign_30 (by decide) ?_
    refine zg_callVi X (k_X2_hasAnyInState l D ad T _ hB0 97) zFr.rf gX6_openCampaign_X2_hasAnyInState rfl rfl rfl qv_X2_hasAnyInState rfl ⟨Nat.le_of_ble_eq_true rfl, Nat.le_of_ble_eq_true rfl⟩ (q0 := 4) (ci := 4) rfl rfl rfl (Nat.le_of_ble_eq_true rfl) ⟨Nat.le_of_ble_eq_true rfl, Nat.le_of_ble_eq_true rfl⟩ dX6_openCampaign_32 (fun r w1 hz9 => ?_)
    obtain ⟨rfl, rfl⟩ := hz9
    refine zg_if_neb X dX6_openCampaign_35 (tgt := 49) (by decide) (fun c_35 => ?_) (fun c_35 => ?_)
    · skip
      refine zg_aload_n X dX6_openCampaign_49 rfl ?_
      refine rg_R_campaign X f6 l40 dX6_openCampaign_50 ?_
      refine zg_aload_n X dX6_openCampaign_53 rfl ?_
      refine rg_R_day X f6 l51 dX6_openCampaign_54 ?_
      refine zg_iload_n X dX6_openCampaign_57 rfl ?_
      refine zg_iadd X dX6_openCampaign_58 ?_
      refine zg_callVv X (k_X0_open l D ad T _ _) zFr.rf gX6_openCampaign_X0_open rfl rfl rfl qv_X0_open rfl ⟨Nat.le_of_ble_eq_true rfl, Nat.le_of_ble_eq_true rfl⟩ (q0 := 5) (ci := 2) rfl rfl rfl (Nat.le_of_ble_eq_true rfl) ⟨Nat.le_of_ble_eq_true rfl, Nat.le_of_ble_eq_true rfl⟩ dX6_openCampaign_59 (fun w1 hz9 => ?_)
      obtain rfl := hz9
      refine zg_iconst X (v := 0) dX6_openCampaign_62 (by decide) ?_
      refine zg_istore_n X dX6_openCampaign_63 (by decide) ?_
      have LP64 : ∀ (fu : Nat) (i : Nat) (s1 : ZS), σ.1 3 + 1 ≤ i + fu → i ≤ σ.1 3 → s1 = fN (opnF σ) (uC (uC (uN σ 3 (σ.2.1 0 + x)) 4 0) 6 0) i → s1.1 3 = σ.1 3 → s1.2.2 11 = σ.2.2 11 → s1.1 4 ≤ i → zG p l e (headSpec wsX6_openCampaign ({ frames := 7, cells := 2, slots := 12, locals := 111 })).room s m [.ref (ad 0), .int x].toArray below meth c D 3 A 1 6 (vx_MQ below (qI D (zT T) (fun v w => ∃ s, sp_openCampaign σ x = .inr (v, s) ∧ w = wC ad T s) A) (xE D (zT T) (fun E w => sp_openCampaign σ x = .inl E ∧ w = wC ad T σ) A) [.ref (ad 0), .int x].toArray s 2 12 A) (wC ad T s1) 64 [(0, .ref (ad 0)), (1, .int x), (2, .int (nI i))] [] := by
        intro fu
        induction fu with
        | zero => intro i s1 hfu hii _ _ _ _; exact absurd hfu (by omega)
        | succ fu ih64 =>
          intro i s1 hfu hii hs1 h3 h11 h4
          refine zg_iload_n X dX6_openCampaign_64 rfl ?_
          refine zg_aload_n X dX6_openCampaign_65 rfl ?_
          refine rg_R_grants X f6 l33 dX6_openCampaign_66 ?_
          refine rg_Grants_count X f2 l173 dX6_openCampaign_69 ?_
          refine zg_top (congrArg nI h3) ?_
          refine zg_icmpn_ge X dX6_openCampaign_72 (tgt := 103) (by decide) (a := i) (b := σ.1 3) (by omega) (by omega) (fun c_72 => ?_) (fun c_72 => ?_)
          · skip
            refine zg_aload_n X dX6_openCampaign_103 rfl ?_
            refine rg_R_campaign X f6 l40 dX6_openCampaign_104 ?_
            refine rg_Campaign_count X f0 l271 dX6_openCampaign_107 ?_
            exact zg_x (zg_iret X hr dX6_openCampaign_110 (Nat.le_of_ble_eq_true rfl) (Nat.le_of_ble_eq_true rfl) (⟨uN s1 7 1, by rw [sp_openCampaign, if_pos hd, if_neg (fun q => q.elim (by omega) (fun z => z c_35)), opnI, show σ.1 3 = i by omega, ← hs1] <;> rfl, rfl⟩))
          · skip
            refine zg_aload_n X dX6_openCampaign_75 rfl ?_
            refine rg_R_grants X f6 l33 dX6_openCampaign_76 ?_
            refine rg_Grants_states X f2 l186 dX6_openCampaign_79 ?_
            refine zg_iload_n X dX6_openCampaign_82 rfl ?_
            refine rlC_states X (by omega) dX6_openCampaign_83 ?_
            refine zg_bipush X (v := 97) dX6_openCampaign_84 (by decide) ?_
            refine zg_icmp_ne X dX6_openCampaign_86 (tgt := 97) (by decide) (fun c_86 => ?_) (fun c_86 => ?_)
            · skip
              refine zg_iinc1 X dX6_openCampaign_97 (by decide) rfl ?_
              refine zg_goto X dX6_openCampaign_100 (tgt := 64) (by decide) ?_
              exact zg_lv (by exact ⟨rfl, rfl, rfl, trivial⟩) (ih64 (i + 1) s1 (by omega) (by omega) (by rw [fN, ← hs1, opnF, if_neg (by rw [← h11]; exact c_86)]) h3 h11 (Nat.le_succ_of_le h4))
            · skip
              refine zg_aload_n X dX6_openCampaign_89 rfl ?_
              refine rg_R_campaign X f6 l40 dX6_openCampaign_90 ?_
              refine zg_iload_n X dX6_openCampaign_93 rfl ?_
              refine zg_callVv X (k_X0_addItem l D ad T _ _ (by omega)) zFr.rf gX6_openCampaign_X0_addItem rfl rfl rfl qv_X0_addItem rfl ⟨Nat.le_of_ble_eq_true rfl, Nat.le_of_ble_eq_true rfl⟩ (q0 := 5) (ci := 2) rfl rfl rfl (Nat.le_of_ble_eq_true rfl) ⟨Nat.le_of_ble_eq_true rfl, Nat.le_of_ble_eq_true rfl⟩ dX6_openCampaign_94 (fun w1 hz9 => ?_)
              obtain rfl := hz9
              refine zg_iinc1 X dX6_openCampaign_97 (by decide) rfl ?_
              refine zg_goto X dX6_openCampaign_100 (tgt := 64) (by decide) ?_
              exact zg_lv (by exact ⟨rfl, rfl, rfl, trivial⟩) (ih64 (i + 1) (addIt s1 (nI i)) (by omega) (by omega) (by rw [fN, ← hs1, opnF, if_pos (by rw [← h11]; exact c_86)]) h3 h11 (Nat.succ_le_succ h4))
      exact zg_lv (by exact ⟨rfl, rfl, rfl, trivial⟩) (LP64 (σ.1 3 + 1) 0 (uC (uC (uN σ 3 (σ.2.1 0 + x)) 4 0) 6 0) (by omega) (by omega) rfl rfl rfl (Nat.le_refl 0))
    · skip
      exact zg_throwW X hfl (text := "the campaign would have no items") hno tq_X6_79.1 tq_X6_79.2.1 l75 (by decide +kernel) (by decide +kernel) (fun w h => by have h : w ∈ (vx_atS RX6 79 "java/lang/IllegalStateException" ["java/lang/RuntimeException", "java/lang/Exception"]).filter goodWord := h; revert w; decide +kernel) tq_X6_79.2.2.1 (by decide +kernel) tq_X6_79.2.2.2 dX6_openCampaign_38 dX6_openCampaign_41 dX6_openCampaign_42 dX6_openCampaign_45 dX6_openCampaign_48 ⟨Nat.le_of_ble_eq_true rfl, Nat.le_of_ble_eq_true rfl, Nat.le_of_ble_eq_true rfl, Nat.le_of_ble_eq_true rfl⟩ ⟨Nat.le_of_ble_eq_true rfl, Nat.le_of_ble_eq_true rfl⟩ (⟨by rw [sp_openCampaign, if_pos hd, if_pos (Or.inr c_35)], rfl⟩)
  · skip
    exact zg_throwW X hfl (text := "a campaign is open") hno tq_X6_79.1 tq_X6_79.2.1 l75 (by decide +kernel) (by decide +kernel) (fun w h => by have h : w ∈ (vx_atS RX6 79 "java/lang/IllegalStateException" ["java/lang/RuntimeException", "java/lang/Exception"]).filter goodWord := h; revert w; decide +kernel) tq_X6_79.2.2.1 (by decide +kernel) tq_X6_79.2.2.2 dX6_openCampaign_15 dX6_openCampaign_18 dX6_openCampaign_19 dX6_openCampaign_22 dX6_openCampaign_25 ⟨Nat.le_of_ble_eq_true rfl, Nat.le_of_ble_eq_true rfl, Nat.le_of_ble_eq_true rfl, Nat.le_of_ble_eq_true rfl⟩ ⟨Nat.le_of_ble_eq_true rfl, Nat.le_of_ble_eq_true rfl⟩ (⟨by rw [sp_openCampaign, if_pos hd, if_pos (Or.inl (show 0 < σ.1 6 by omega))], rfl⟩)
