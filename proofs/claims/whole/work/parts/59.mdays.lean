/-! rows of methods, laid by a program of mine (wip/whole/walk.py) out of the bytecode and annotations -/
theorem qd_X7_answer : yX7_answer.cls ≠ "java/lang/invoke/MethodHandle" ∧ yX7_answer.cls ≠ "java/lang/invoke/VarHandle" ∧ (parseMethodDescriptor yX7_answer.desc).map (fun d => d.parameters.length) = some 3 := by decide +kernel
theorem qv_X7_answer : yX7_answer.cls = RX7 ∧ yX7_answer.cls ≠ "java/lang/invoke/MethodHandle" ∧ yX7_answer.cls ≠ "java/lang/invoke/VarHandle" ∧ (parseMethodDescriptor yX7_answer.desc).map (fun d => d.parameters.length) = some 3 := ⟨rfl, qd_X7_answer⟩
theorem qd_X7_decidesBySilence : yX7_decidesBySilence.cls ≠ "java/lang/invoke/MethodHandle" ∧ yX7_decidesBySilence.cls ≠ "java/lang/invoke/VarHandle" ∧ (parseMethodDescriptor yX7_decidesBySilence.desc).map (fun d => d.parameters.length) = some 0 := by decide +kernel
theorem qv_X7_decidesBySilence : yX7_decidesBySilence.cls = RX7 ∧ yX7_decidesBySilence.cls ≠ "java/lang/invoke/MethodHandle" ∧ yX7_decidesBySilence.cls ≠ "java/lang/invoke/VarHandle" ∧ (parseMethodDescriptor yX7_decidesBySilence.desc).map (fun d => d.parameters.length) = some 0 := ⟨rfl, qd_X7_decidesBySilence⟩
theorem qd_X7_openCampaign : yX7_openCampaign.cls ≠ "java/lang/invoke/MethodHandle" ∧ yX7_openCampaign.cls ≠ "java/lang/invoke/VarHandle" ∧ (parseMethodDescriptor yX7_openCampaign.desc).map (fun d => d.parameters.length) = some 1 := by decide +kernel
theorem qv_X7_openCampaign : yX7_openCampaign.cls = RX7 ∧ yX7_openCampaign.cls ≠ "java/lang/invoke/MethodHandle" ∧ yX7_openCampaign.cls ≠ "java/lang/invoke/VarHandle" ∧ (parseMethodDescriptor yX7_openCampaign.desc).map (fun d => d.parameters.length) = some 1 := ⟨rfl, qd_X7_openCampaign⟩
theorem qd_X7_pass : yX7_pass.cls ≠ "java/lang/invoke/MethodHandle" ∧ yX7_pass.cls ≠ "java/lang/invoke/VarHandle" ∧ (parseMethodDescriptor yX7_pass.desc).map (fun d => d.parameters.length) = some 1 := by decide +kernel
theorem qv_X7_pass : yX7_pass.cls = RX7 ∧ yX7_pass.cls ≠ "java/lang/invoke/MethodHandle" ∧ yX7_pass.cls ≠ "java/lang/invoke/VarHandle" ∧ (parseMethodDescriptor yX7_pass.desc).map (fun d => d.parameters.length) = some 1 := ⟨rfl, qd_X7_pass⟩
theorem hasSt_0 {σ : ZS} (h : cnA (σ.2.2 11) (σ.1 3) = 0) : ¬ hasSt σ 97 := fun q => by
  obtain ⟨g, hg, e⟩ := exB_iff.mp q
  exact cnA_0 h g hg e
theorem hasSt_1 {σ : ZS} (h : ¬ cnA (σ.2.2 11) (σ.1 3) = 0) : hasSt σ 97 := Classical.byContradiction fun q => h (cnA_1 (fun i hi e => q (exB_t hi e)))
set_option maxHeartbeats 4000000 in
set_option maxRecDepth 100000 in
theorem k_X7_decidesBySilence (l : Launch) (D : va_G) (ad : Nat → Nat) (T : Nat → ClassId) (σ : ZS) (hI : zI σ) (hU : zU σ) (hR : zR σ) : zM l yX7_decidesBySilence wsX7_decidesBySilence ({ frames := 7, cells := 0, slots := 0, locals := 164 }) D (zT T) [.ref (ad 0)] (wM ad T σ) 0 0 (qV D (zT T) (fun w => w = wM ad T (uN (silI σ) 7 0))) := by
  have hB0 := hI.bd
  obtain ⟨b0, b1, b2, b3, b4, b5⟩ := hI.bd
  refine zg_of (cc := cX7_decidesBySilence) (maxL := 2) (ret := none) (by decide) rfl (Nat.le_of_ble_eq_true rfl) (fun p e s m below meth c A hin hr X => ?_)
  have X : zC p s m _ meth c cX7_decidesBySilence 2 wsX7_decidesBySilence RX7 D (zT T) A := X
  have f7 : ∀ w ∈ u_ws RX7 TX7 37, w ∈ wsX7_decidesBySilence := by decide +kernel
  have l175 : Cond.fieldLink RX7 175 "RecertifyModel" "isOpen" "Z" ∈ wsX7_decidesBySilence := by decide +kernel
  have l179 : Cond.fieldLink RX7 179 "RecertifyModel" "items" "I" ∈ wsX7_decidesBySilence := by decide +kernel
  have l60 : Cond.fieldLink RX7 60 "RecertifyModel" "limit" "I" ∈ wsX7_decidesBySilence := by decide +kernel
  have l73 : Cond.fieldLink RX7 73 "RecertifyModel" "itemGrants" "[I" ∈ wsX7_decidesBySilence := by decide +kernel
  have l79 : Cond.fieldLink RX7 79 "RecertifyModel" "verdicts" "[C" ∈ wsX7_decidesBySilence := by decide +kernel
  refine zg_iconst X (v := 0) dX7_decidesBySilence_0 (by decide) ?_
  refine zg_istore_n X dX7_decidesBySilence_1 (by decide) ?_
  have LP2 : ∀ (fu : Nat) (i : Nat) (s1 : ZS), σ.1 4 + 1 ≤ i + fu → i ≤ σ.1 4 → s1 = fN silF σ i → zG p l e (headSpec wsX7_decidesBySilence ({ frames := 7, cells := 0, slots := 0, locals := 164 })).room s m [.ref (ad 0)].toArray below meth c D 2 A 0 0 (MQ below (qV D (zT T) (fun w => w = wM ad T (uN (silI σ) 7 0)) A) [.ref (ad 0)].toArray s 0 0 A) (wM ad T s1) 2 [(0, .ref (ad 0)), (1, .int (nI i))] [] := by
    intro fu
    induction fu with
    | zero => intro i s1 hfu hii _; exact absurd hfu (by omega)
    | succ fu ih2 =>
      intro i s1 hfu hii hs1
      refine zg_iload_n X dX7_decidesBySilence_2 rfl ?_
      refine zg_aload_n X dX7_decidesBySilence_3 rfl ?_
      refine rg_M_items X f7 l179 dX7_decidesBySilence_4 ?_
      obtain ⟨hI1, hU1, h4, h33⟩ := zIU_silN hI hU i (by omega)
      have hR1 := zR_silN (σ := σ) hR i
      rw [← hs1] at hI1 hU1 h4 h33 hR1
      refine zg_top (congrArg nI h4) ?_
      refine zg_icmpn_ge X dX7_decidesBySilence_7 (tgt := 57) (by decide) (a := i) (b := σ.1 4) (by omega) (by omega) (fun c_7 => ?_) (fun c_7 => ?_)
      · skip
        refine zg_aload_n X dX7_decidesBySilence_57 rfl ?_
        refine zg_iconst X (v := 0) dX7_decidesBySilence_58 (by decide) ?_
        refine rp_M_isOpen X f7 l175 rfl rfl dX7_decidesBySilence_59 ?_
        exact zg_vret X hr dX7_decidesBySilence_62 (Nat.le_of_ble_eq_true rfl) (Nat.le_of_ble_eq_true rfl) (by rw [hs1, silI, show i = σ.1 4 by omega])
      · skip
        refine zg_aload_n X dX7_decidesBySilence_10 rfl ?_
        refine rg_M_verdicts X f7 l79 dX7_decidesBySilence_11 ?_
        refine zg_iload_n X dX7_decidesBySilence_14 rfl ?_
        refine rlM_verdicts X (by omega) dX7_decidesBySilence_15 ?_
        refine zg_bipush X (v := 117) dX7_decidesBySilence_16 (by decide) ?_
        refine zg_icmp_ne X dX7_decidesBySilence_18 (tgt := 51) (by decide) (fun c_18 => ?_) (fun c_18 => ?_)
        · skip
          refine zg_iinc1 X dX7_decidesBySilence_51 (by decide) rfl ?_
          refine zg_goto X dX7_decidesBySilence_54 (tgt := 2) (by decide) ?_
          exact zg_lv (by exact ⟨rfl, rfl, trivial⟩) (ih2 (i + 1) s1 (by omega) (by omega) (by rw [fN, ← hs1, silF, if_neg c_18]))
        · skip
          refine zg_aload_n X dX7_decidesBySilence_21 rfl ?_
          refine zg_iload_n X dX7_decidesBySilence_22 rfl ?_
          refine zg_iconst X (v := (-1)) dX7_decidesBySilence_23 (by decide) ?_
          refine zg_aload_n X dX7_decidesBySilence_24 rfl ?_
          refine zg_aload_n X dX7_decidesBySilence_25 rfl ?_
          refine rg_M_itemGrants X f7 l73 dX7_decidesBySilence_26 ?_
          refine zg_iload_n X dX7_decidesBySilence_29 rfl ?_
          refine rlM_itemGrants X (by omega) dX7_decidesBySilence_30 ?_
          obtain ⟨g0, hg0, eg⟩ := hI1.itm i (by omega)
          refine zg_top eg ?_
          refine zg_callVi X (k_X7_riskOfGrant l D ad T _ hI1 g0 hg0) zFr.rf gX7_decidesBySilence_X7_riskOfGrant rfl rfl rfl qv_X7_riskOfGrant rfl ⟨Nat.le_of_ble_eq_true rfl, Nat.le_of_ble_eq_true rfl⟩ (q0 := 0) (ci := 9) rfl rfl rfl (Nat.le_of_ble_eq_true rfl) ⟨Nat.le_of_ble_eq_true rfl, Nat.le_of_ble_eq_true rfl⟩ dX7_decidesBySilence_31 (fun r w1 hz9 => ?_)
          obtain ⟨rfl, rfl⟩ := hz9
          refine zg_aload_n X dX7_decidesBySilence_34 rfl ?_
          refine rg_M_limit X f7 l60 dX7_decidesBySilence_35 ?_
          refine zg_icmp_lt X dX7_decidesBySilence_38 (tgt := 46) (by decide) (fun c_38 => ?_) (fun c_38 => ?_)
          · skip
            refine zg_bipush X (v := 107) dX7_decidesBySilence_46 (by decide) ?_
            refine zg_callVv X (k_X7_decides l D ad T _ hI1 i (-1) 107 (by omega) hR1 rfl) zFr.rf gX7_decidesBySilence_X7_decides rfl rfl rfl qv_X7_decides rfl ⟨Nat.le_of_ble_eq_true rfl, Nat.le_of_ble_eq_true rfl⟩ (q0 := 0) (ci := 9) rfl rfl rfl (Nat.le_of_ble_eq_true rfl) ⟨Nat.le_of_ble_eq_true rfl, Nat.le_of_ble_eq_true rfl⟩ dX7_decidesBySilence_48 (fun w1 hz9 => ?_)
            obtain rfl := hz9
            refine zg_iinc1 X dX7_decidesBySilence_51 (by decide) rfl ?_
            refine zg_goto X dX7_decidesBySilence_54 (tgt := 2) (by decide) ?_
            exact zg_lv (by exact ⟨rfl, rfl, trivial⟩) (ih2 (i + 1) (decI s1 i 107 (-1)) (by omega) (by omega) (by rw [fN, ← hs1, silF, if_pos c_18, eg, ix_nI (by omega), if_neg (zi_lt.mp c_38)]))
          · skip
            refine zg_bipush X (v := 114) dX7_decidesBySilence_41 (by decide) ?_
            refine zg_goto X dX7_decidesBySilence_43 (tgt := 48) (by decide) ?_
            refine zg_callVv X (k_X7_decides l D ad T _ hI1 i (-1) 114 (by omega) hR1 rfl) zFr.rf gX7_decidesBySilence_X7_decides rfl rfl rfl qv_X7_decides rfl ⟨Nat.le_of_ble_eq_true rfl, Nat.le_of_ble_eq_true rfl⟩ (q0 := 0) (ci := 9) rfl rfl rfl (Nat.le_of_ble_eq_true rfl) ⟨Nat.le_of_ble_eq_true rfl, Nat.le_of_ble_eq_true rfl⟩ dX7_decidesBySilence_48 (fun w1 hz9 => ?_)
            obtain rfl := hz9
            refine zg_iinc1 X dX7_decidesBySilence_51 (by decide) rfl ?_
            refine zg_goto X dX7_decidesBySilence_54 (tgt := 2) (by decide) ?_
            exact zg_lv (by exact ⟨rfl, rfl, trivial⟩) (ih2 (i + 1) (decI s1 i 114 (-1)) (by omega) (by omega) (by rw [fN, ← hs1, silF, if_pos c_18, eg, ix_nI (by omega), if_pos (zi_le.mpr c_38)]))
  exact zg_lv (by exact ⟨rfl, rfl, trivial⟩) (LP2 (σ.1 4 + 1) 0 σ (by omega) (by omega) rfl)

set_option maxHeartbeats 4000000 in
set_option maxRecDepth 100000 in
theorem k_X7_pass (l : Launch) (D : va_G) (ad : Nat → Nat) (T : Nat → ClassId) (σ : ZS) (hI : zI σ) (x : Int32) (hU : zU σ) (hR : zR σ) (hO : σ.2.1 7 = bI (0 < σ.1 6)) : zM l yX7_pass wsX7_pass ({ frames := 8, cells := 0, slots := 0, locals := 185 }) D (zT T) [.ref (ad 0), .int x] (wM ad T σ) 0 0 (qI D (zT T) (fun v0 w => ∃ t, mR [eIA] σ (sp_pass σ x) v0 t ∧ w = wM ad T t)) := by
  have hB0 := hI.bd
  obtain ⟨b0, b1, b2, b3, b4, b5⟩ := hI.bd
  refine zg_of (cc := cX7_pass) (maxL := 3) (ret := (some .int)) (by decide) rfl (Nat.le_of_ble_eq_true rfl) (fun p e s m below meth c A hin hr X => ?_)
  have X : zC p s m _ meth c cX7_pass 3 wsX7_pass RX7 D (zT T) A := X
  have f7 : ∀ w ∈ u_ws RX7 TX7 37, w ∈ wsX7_pass := by decide +kernel
  have l134 : Cond.fieldLink RX7 134 "RecertifyModel" "day" "I" ∈ wsX7_pass := by decide +kernel
  have l175 : Cond.fieldLink RX7 175 "RecertifyModel" "isOpen" "Z" ∈ wsX7_pass := by decide +kernel
  have l182 : Cond.fieldLink RX7 182 "RecertifyModel" "deadline" "I" ∈ wsX7_pass := by decide +kernel
  have l85 : Cond.fieldLink RX7 85 "RecertifyModel" "thrown" "I" ∈ wsX7_pass := by decide +kernel
  refine zg_aload_n X dX7_pass_0 rfl ?_
  refine zg_iconst X (v := 0) dX7_pass_1 (by decide) ?_
  refine rp_M_thrown X f7 l85 dX7_pass_2 ?_
  refine zg_iload_n X dX7_pass_5 rfl ?_
  refine zg_iconst X (v := 1) dX7_pass_6 (by decide) ?_
  refine zg_bipush X (v := 30) dX7_pass_7 (by decide) ?_
  refine zg_callSi X (k_X7_isBetween l D ad T (uN σ 8 0) x 1 30) zFr.rf gX7_pass_X7_isBetween rfl rfl rfl qd_X7_isBetween rfl ⟨Nat.le_of_ble_eq_true rfl, Nat.le_of_ble_eq_true rfl⟩ rfl (Nat.le_of_ble_eq_true rfl) ⟨Nat.le_of_ble_eq_true rfl, Nat.le_of_ble_eq_true rfl⟩ dX7_pass_9 (fun r w1 hz9 => ?_)
  obtain ⟨rfl, rfl⟩ := hz9
  refine zg_if_neb X dX7_pass_12 (tgt := 21) (by decide) (fun c_12 => ?_) (fun c_12 => ?_)
  · skip
    have hd := c_12
    obtain ⟨d0, hd0, ed⟩ := nI_of2 (x := x) (M := 30) (n := 30) (by decide) (fun q => zi_le.mp hd.1 (by exact zi_lt0 q)) hd.2
    subst ed
    refine zg_iconst X (v := 0) dX7_pass_21 (by decide) ?_
    refine zg_istore_n X dX7_pass_22 (by decide) ?_
    have LP23 : ∀ (fu : Nat) (i : Nat) (s1 : ZS) (t1 : ZS), d0 + 1 ≤ i + fu → i ≤ d0 → s1 = fN (fun _ s => dayI s) σ i → zI s1 ∧ zU s1 ∧ zR s1 → mT t1 s1 → zG p l e (headSpec wsX7_pass ({ frames := 8, cells := 0, slots := 0, locals := 185 })).room s m [.ref (ad 0), .int (nI d0)].toArray below meth c D 3 A 0 0 (MQ below (qI D (zT T) (fun v0 w => ∃ t, mR [eIA] σ (sp_pass σ (nI d0)) v0 t ∧ w = wM ad T t) A) [.ref (ad 0), .int (nI d0)].toArray s 0 0 A) (wM ad T t1) 23 [(0, .ref (ad 0)), (1, .int (nI d0)), (2, .int (nI i))] [] := by
      intro fu
      induction fu with
      | zero => intro i s1 t1 hfu hii _ _ _; exact absurd hfu (by omega)
      | succ fu ih23 =>
        intro i s1 t1 hfu hii hs1 hIU hT
        refine zg_iload_n X dX7_pass_23 rfl ?_
        refine zg_iload_n X dX7_pass_24 rfl ?_
        refine zg_icmpn_ge X dX7_pass_25 (tgt := 70) (by decide) (a := i) (b := d0) (by omega) (by omega) (fun c_25 => ?_) (fun c_25 => ?_)
        · skip
          refine zg_aload_n X dX7_pass_70 rfl ?_
          refine rg_M_day X f7 l134 dX7_pass_71 ?_
          exact zg_iret X hr dX7_pass_74 (Nat.le_of_ble_eq_true rfl) (Nat.le_of_ble_eq_true rfl) (⟨t1, mR_ok (s := opF s1) (by rw [sp_pass, if_pos hd, ix_nI (by omega), show d0 = i by omega, ← hs1, hT.1.2.1 0 (by decide) (by decide)]) (ovl_tr hT.1 (ovl_sy ovl_7)) hT.2.1 hT.2.2, rfl⟩)
        · skip
          refine zg_aload_n X dX7_pass_28 rfl ?_
          refine zg_dup X dX7_pass_29 rfl ?_
          refine rg_M_day X f7 l134 dX7_pass_30 ?_
          refine zg_iconst X (v := 1) dX7_pass_33 (by decide) ?_
          refine zg_iadd X dX7_pass_34 ?_
          refine rp_M_day X f7 l134 dX7_pass_35 ?_
          refine zg_aload_n X dX7_pass_38 rfl ?_
          refine rg_M_isOpen X f7 l175 dX7_pass_39 ?_
          refine zg_if_eq X dX7_pass_42 (tgt := 60) (by decide) (fun c_42 => ?_) (fun c_42 => ?_)
          · skip
            refine zg_aload_n X dX7_pass_60 rfl ?_
            refine zg_callVv X (k_X7_looks l D ad T (uN t1 0 (t1.2.1 0 + 1)) (show zI (uN t1 0 (t1.2.1 0 + 1)) from zI_n0 (show zI t1 from zI_ovl hT.1 hIU.1)) (show zR (uN t1 0 (t1.2.1 0 + 1)) from (show zR t1 from zR_ovl hT.1 hIU.2.2))) zFr.rf gX7_pass_X7_looks rfl rfl rfl qv_X7_looks rfl ⟨Nat.le_of_ble_eq_true rfl, Nat.le_of_ble_eq_true rfl⟩ (q0 := 0) (ci := 9) rfl rfl rfl (Nat.le_of_ble_eq_true rfl) ⟨Nat.le_of_ble_eq_true rfl, Nat.le_of_ble_eq_true rfl⟩ dX7_pass_61 (fun w1 hz9 => ?_)
            obtain ⟨t2, ho2, hn2, rfl⟩ := hz9
            refine zg_iinc1 X dX7_pass_64 (by decide) rfl ?_
            refine zg_goto X dX7_pass_67 (tgt := 23) (by decide) ?_
            exact zg_lv (by exact ⟨rfl, rfl, rfl, trivial⟩) (ih23 (i + 1) (dayI s1) t2 (by omega) (by omega) (by rw [fN, ← hs1]) (zIUR_day hIU) (passB1 hIU hT c_42 ho2 hn2))
          · skip
            refine zg_aload_n X dX7_pass_45 rfl ?_
            refine rg_M_day X f7 l134 dX7_pass_46 ?_
            refine zg_aload_n X dX7_pass_49 rfl ?_
            refine rg_M_deadline X f7 l182 dX7_pass_50 ?_
            refine zg_icmp_ne X dX7_pass_53 (tgt := 60) (by decide) (fun c_53 => ?_) (fun c_53 => ?_)
            · skip
              refine zg_aload_n X dX7_pass_60 rfl ?_
              refine zg_callVv X (k_X7_looks l D ad T (uN t1 0 (t1.2.1 0 + 1)) (show zI (uN t1 0 (t1.2.1 0 + 1)) from zI_n0 (show zI t1 from zI_ovl hT.1 hIU.1)) (show zR (uN t1 0 (t1.2.1 0 + 1)) from (show zR t1 from zR_ovl hT.1 hIU.2.2))) zFr.rf gX7_pass_X7_looks rfl rfl rfl qv_X7_looks rfl ⟨Nat.le_of_ble_eq_true rfl, Nat.le_of_ble_eq_true rfl⟩ (q0 := 0) (ci := 9) rfl rfl rfl (Nat.le_of_ble_eq_true rfl) ⟨Nat.le_of_ble_eq_true rfl, Nat.le_of_ble_eq_true rfl⟩ dX7_pass_61 (fun w1 hz9 => ?_)
              obtain ⟨t2, ho2, hn2, rfl⟩ := hz9
              refine zg_iinc1 X dX7_pass_64 (by decide) rfl ?_
              refine zg_goto X dX7_pass_67 (tgt := 23) (by decide) ?_
              exact zg_lv (by exact ⟨rfl, rfl, rfl, trivial⟩) (ih23 (i + 1) (dayI s1) t2 (by omega) (by omega) (by rw [fN, ← hs1]) (zIUR_day hIU) (passB2 hIU hT c_53 ho2 hn2))
            · skip
              refine zg_aload_n X dX7_pass_56 rfl ?_
              refine zg_callVv X (k_X7_decidesBySilence l D ad T (uN t1 0 (t1.2.1 0 + 1)) (show zI (uN t1 0 (t1.2.1 0 + 1)) from zI_n0 (show zI t1 from zI_ovl hT.1 hIU.1)) (show zU (uN t1 0 (t1.2.1 0 + 1)) from zU_n0 (show zU t1 from zU_ovl hT.1 hIU.2.1)) (show zR (uN t1 0 (t1.2.1 0 + 1)) from (show zR t1 from zR_ovl hT.1 hIU.2.2))) zFr.rf gX7_pass_X7_decidesBySilence rfl rfl rfl qv_X7_decidesBySilence rfl ⟨Nat.le_of_ble_eq_true rfl, Nat.le_of_ble_eq_true rfl⟩ (q0 := 0) (ci := 9) rfl rfl rfl (Nat.le_of_ble_eq_true rfl) ⟨Nat.le_of_ble_eq_true rfl, Nat.le_of_ble_eq_true rfl⟩ dX7_pass_57 (fun w1 hz9 => ?_)
              obtain rfl := hz9
              refine zg_aload_n X dX7_pass_60 rfl ?_
              refine zg_callVv X (k_X7_looks l D ad T (uN (silI (uN t1 0 (t1.2.1 0 + 1))) 7 0) (show zI (uN (silI (uN t1 0 (t1.2.1 0 + 1))) 7 0) from (zIU_sil (show zI (uN t1 0 (t1.2.1 0 + 1)) from zI_n0 (show zI t1 from zI_ovl hT.1 hIU.1)) (show zU (uN t1 0 (t1.2.1 0 + 1)) from zU_n0 (show zU t1 from zU_ovl hT.1 hIU.2.1))).1) (show zR (uN (silI (uN t1 0 (t1.2.1 0 + 1))) 7 0) from zR_silN (show zR (uN t1 0 (t1.2.1 0 + 1)) from (show zR t1 from zR_ovl hT.1 hIU.2.2)) _)) zFr.rf gX7_pass_X7_looks rfl rfl rfl qv_X7_looks rfl ⟨Nat.le_of_ble_eq_true rfl, Nat.le_of_ble_eq_true rfl⟩ (q0 := 0) (ci := 9) rfl rfl rfl (Nat.le_of_ble_eq_true rfl) ⟨Nat.le_of_ble_eq_true rfl, Nat.le_of_ble_eq_true rfl⟩ dX7_pass_61 (fun w1 hz9 => ?_)
              obtain ⟨t2, ho2, hn2, rfl⟩ := hz9
              refine zg_iinc1 X dX7_pass_64 (by decide) rfl ?_
              refine zg_goto X dX7_pass_67 (tgt := 23) (by decide) ?_
              exact zg_lv (by exact ⟨rfl, rfl, rfl, trivial⟩) (ih23 (i + 1) (dayI s1) t2 (by omega) (by omega) (by rw [fN, ← hs1]) (zIUR_day hIU) (passA hIU hT c_42 c_53 ho2 hn2))
    exact zg_lv (by exact ⟨rfl, rfl, rfl, trivial⟩) (LP23 (d0 + 1) 0 σ (uN σ 8 0) (by omega) (by omega) rfl ⟨hI, hU, hR⟩ (mT_0 hO))
  · skip
    refine zg_aload_n X dX7_pass_15 rfl ?_
    refine zg_iconst X (v := 1) dX7_pass_16 (by decide) ?_
    refine zg_callVi X (k_X7_fails l D ad T (uN σ 8 0) 1) zFr.rf gX7_pass_X7_fails rfl rfl rfl qv_X7_fails rfl ⟨Nat.le_of_ble_eq_true rfl, Nat.le_of_ble_eq_true rfl⟩ (q0 := 0) (ci := 9) rfl rfl rfl (Nat.le_of_ble_eq_true rfl) ⟨Nat.le_of_ble_eq_true rfl, Nat.le_of_ble_eq_true rfl⟩ dX7_pass_17 (fun r w1 hz9 => ?_)
    obtain ⟨rfl, rfl⟩ := hz9
    exact zg_iret X hr dX7_pass_20 (Nat.le_of_ble_eq_true rfl) (Nat.le_of_ble_eq_true rfl) (⟨uN (uN σ 8 0) 8 1, mR_f 0 (by rw [sp_pass, if_neg c_12]) rfl rfl, rfl⟩)

set_option maxHeartbeats 4000000 in
set_option maxRecDepth 100000 in
theorem k_X7_answer (l : Launch) (D : va_G) (ad : Nat → Nat) (T : Nat → ClassId) (σ : ZS) (hI : zI σ) (x y v : Int32) (hU : zU σ) (hR : zR σ) (hO : σ.2.1 7 = bI (0 < σ.1 6)) : zM l yX7_answer wsX7_answer ({ frames := 7, cells := 0, slots := 0, locals := 159 }) D (zT T) [.ref (ad 0), .int x, .int y, .int v] (wM ad T σ) 0 0 (qI D (zT T) (fun v0 w => ∃ t, mR [eIS, eNS, eIA, eUO] σ (sp_answer σ x y v) v0 t ∧ w = wM ad T t)) := by
  have hB0 := hI.bd
  obtain ⟨b0, b1, b2, b3, b4, b5⟩ := hI.bd
  refine zg_of (cc := cX7_answer) (maxL := 4) (ret := (some .int)) (by decide) rfl (Nat.le_of_ble_eq_true rfl) (fun p e s m below meth c A hin hr X => ?_)
  have X : zC p s m _ meth c cX7_answer 4 wsX7_answer RX7 D (zT T) A := X
  have f7 : ∀ w ∈ u_ws RX7 TX7 37, w ∈ wsX7_answer := by decide +kernel
  have l175 : Cond.fieldLink RX7 175 "RecertifyModel" "isOpen" "Z" ∈ wsX7_answer := by decide +kernel
  have l179 : Cond.fieldLink RX7 179 "RecertifyModel" "items" "I" ∈ wsX7_answer := by decide +kernel
  have l73 : Cond.fieldLink RX7 73 "RecertifyModel" "itemGrants" "[I" ∈ wsX7_answer := by decide +kernel
  have l79 : Cond.fieldLink RX7 79 "RecertifyModel" "verdicts" "[C" ∈ wsX7_answer := by decide +kernel
  have l85 : Cond.fieldLink RX7 85 "RecertifyModel" "thrown" "I" ∈ wsX7_answer := by decide +kernel
  refine zg_aload_n X dX7_answer_0 rfl ?_
  refine zg_iconst X (v := 0) dX7_answer_1 (by decide) ?_
  refine rp_M_thrown X f7 l85 dX7_answer_2 ?_
  refine zg_aload_n X dX7_answer_5 rfl ?_
  refine rg_M_isOpen X f7 l175 dX7_answer_6 ?_
  refine zg_if_ne X dX7_answer_9 (tgt := 18) (by decide) (fun c_9 => ?_) (fun c_9 => ?_)
  · skip
    have h6 : 0 < σ.1 6 := bI_nz (by rw [← hO]; exact c_9)
    refine zg_aload_n X dX7_answer_18 rfl ?_
    refine zg_iload_n X dX7_answer_19 rfl ?_
    refine zg_callVi X (k_X7_isPerson l D ad T (uN σ 8 0) hB0 x) zFr.rf gX7_answer_X7_isPerson rfl rfl rfl qv_X7_isPerson rfl ⟨Nat.le_of_ble_eq_true rfl, Nat.le_of_ble_eq_true rfl⟩ (q0 := 0) (ci := 9) rfl rfl rfl (Nat.le_of_ble_eq_true rfl) ⟨Nat.le_of_ble_eq_true rfl, Nat.le_of_ble_eq_true rfl⟩ dX7_answer_20 (fun r w1 hz9 => ?_)
    obtain ⟨rfl, rfl⟩ := hz9
    refine zg_if_eqb X dX7_answer_23 (tgt := 40) (by decide) (fun c_23 => ?_) (fun c_23 => ?_)
    · skip
      refine zg_aload_n X dX7_answer_40 rfl ?_
      refine zg_iconst X (v := 2) dX7_answer_41 (by decide) ?_
      refine zg_callVi X (k_X7_fails l D ad T (uN σ 8 0) 2) zFr.rf gX7_answer_X7_fails rfl rfl rfl qv_X7_fails rfl ⟨Nat.le_of_ble_eq_true rfl, Nat.le_of_ble_eq_true rfl⟩ (q0 := 0) (ci := 9) rfl rfl rfl (Nat.le_of_ble_eq_true rfl) ⟨Nat.le_of_ble_eq_true rfl, Nat.le_of_ble_eq_true rfl⟩ dX7_answer_42 (fun r w1 hz9 => ?_)
      obtain ⟨rfl, rfl⟩ := hz9
      exact zg_iret X hr dX7_answer_45 (Nat.le_of_ble_eq_true rfl) (Nat.le_of_ble_eq_true rfl) (⟨uN (uN σ 8 0) 8 2, mR_f 1 (by rw [sp_answer, if_pos h6, if_neg (fun q => c_23 q.1)]) rfl rfl, rfl⟩)
    · skip
      refine zg_iload_n X dX7_answer_26 rfl ?_
      refine zg_iconst X (v := 0) dX7_answer_27 (by decide) ?_
      refine zg_aload_n X dX7_answer_28 rfl ?_
      refine rg_M_items X f7 l179 dX7_answer_29 ?_
      refine zg_iconst X (v := 1) dX7_answer_32 (by decide) ?_
      refine zg_isub X dX7_answer_33 ?_
      refine zg_callSi X (k_X7_isBetween l D ad T (uN σ 8 0) y 0 _) zFr.rf gX7_answer_X7_isBetween rfl rfl rfl qd_X7_isBetween rfl ⟨Nat.le_of_ble_eq_true rfl, Nat.le_of_ble_eq_true rfl⟩ rfl (Nat.le_of_ble_eq_true rfl) ⟨Nat.le_of_ble_eq_true rfl, Nat.le_of_ble_eq_true rfl⟩ dX7_answer_34 (fun r w1 hz9 => ?_)
      obtain ⟨rfl, rfl⟩ := hz9
      refine zg_top (bI_c (show _ ↔ pIn y (σ.1 4) from and_congr Iff.rfl (le_sub1 (n := σ.1 4) (by omega)))) ?_
      refine zg_if_neb X dX7_answer_37 (tgt := 46) (by decide) (fun c_37 => ?_) (fun c_37 => ?_)
      · skip
        have p0 : pIn x (σ.1 0) := c_23
        have p1 : pIn y (σ.1 4) := c_37
        obtain ⟨j1, h1, e1⟩ := pIn_idx (by omega) p1
        subst e1
        refine zg_iload_n X dX7_answer_46 rfl ?_
        refine zg_bipush X (v := 107) dX7_answer_47 (by decide) ?_
        refine zg_icmp_eq X dX7_answer_49 (tgt := 64) (by decide) (fun c_49 => ?_) (fun c_49 => ?_)
        · skip
          have hv : v = 107 ∨ v = 114 := by first | exact Or.inl c_49 | exact Or.inr c_55
          have hvc : vp_nar .char v = v := by rcases hv with rfl | rfl <;> rfl
          have hvn : ¬ v = 117 := by rcases hv with rfl | rfl <;> decide
          refine zg_aload_n X dX7_answer_64 rfl ?_
          refine rg_M_verdicts X f7 l79 dX7_answer_65 ?_
          refine zg_iload_n X dX7_answer_68 rfl ?_
          refine rlM_verdicts X (by omega) dX7_answer_69 ?_
          refine zg_bipush X (v := 117) dX7_answer_70 (by decide) ?_
          refine zg_icmp_ne X dX7_answer_72 (tgt := 89) (by decide) (fun c_72 => ?_) (fun c_72 => ?_)
          · skip
            refine zg_aload_n X dX7_answer_89 rfl ?_
            refine zg_iconst X (v := 4) dX7_answer_90 (by decide) ?_
            refine zg_callVi X (k_X7_fails l D ad T (uN σ 8 0) 4) zFr.rf gX7_answer_X7_fails rfl rfl rfl qv_X7_fails rfl ⟨Nat.le_of_ble_eq_true rfl, Nat.le_of_ble_eq_true rfl⟩ (q0 := 0) (ci := 9) rfl rfl rfl (Nat.le_of_ble_eq_true rfl) ⟨Nat.le_of_ble_eq_true rfl, Nat.le_of_ble_eq_true rfl⟩ dX7_answer_91 (fun r w1 hz9 => ?_)
            obtain ⟨rfl, rfl⟩ := hz9
            exact zg_iret X hr dX7_answer_94 (Nat.le_of_ble_eq_true rfl) (Nat.le_of_ble_eq_true rfl) (⟨uN (uN σ 8 0) 8 4, mR_f 3 (by rw [sp_answer, if_pos h6, if_pos (And.intro p0 p1), if_pos hv, ix_nI (by omega), if_neg (fun q => c_72 q.1)]) rfl rfl, rfl⟩)
          · skip
            refine zg_aload_n X dX7_answer_75 rfl ?_
            refine zg_aload_n X dX7_answer_76 rfl ?_
            refine rg_M_itemGrants X f7 l73 dX7_answer_77 ?_
            refine zg_iload_n X dX7_answer_80 rfl ?_
            refine rlM_itemGrants X (by omega) dX7_answer_81 ?_
            obtain ⟨g0, hg0, eg⟩ := hI.itm j1 h1
            refine zg_top (show _ = nI g0 from eg) ?_
            refine zg_callVi X (k_X7_reviewer l D ad T (uN σ 8 0) hI g0 hg0) zFr.rf gX7_answer_X7_reviewer rfl rfl rfl qv_X7_reviewer rfl ⟨Nat.le_of_ble_eq_true rfl, Nat.le_of_ble_eq_true rfl⟩ (q0 := 0) (ci := 9) rfl rfl rfl (Nat.le_of_ble_eq_true rfl) ⟨Nat.le_of_ble_eq_true rfl, Nat.le_of_ble_eq_true rfl⟩ dX7_answer_82 (fun r w1 hz9 => ?_)
            obtain ⟨rfl, rfl⟩ := hz9
            refine zg_top revI_8 ?_
            refine zg_iload_n X dX7_answer_85 rfl ?_
            refine zg_icmp_eq X dX7_answer_86 (tgt := 95) (by decide) (fun c_86 => ?_) (fun c_86 => ?_)
            · skip
              refine zg_aload_n X dX7_answer_95 rfl ?_
              refine zg_iload_n X dX7_answer_96 rfl ?_
              refine zg_iload_n X dX7_answer_97 rfl ?_
              refine zg_iload_n X dX7_answer_98 rfl ?_
              refine zg_callVv X (k_X7_decides l D ad T (uN σ 8 0) hI j1 x v h1 hR hvc) zFr.rf gX7_answer_X7_decides rfl rfl rfl qv_X7_decides rfl ⟨Nat.le_of_ble_eq_true rfl, Nat.le_of_ble_eq_true rfl⟩ (q0 := 0) (ci := 9) rfl rfl rfl (Nat.le_of_ble_eq_true rfl) ⟨Nat.le_of_ble_eq_true rfl, Nat.le_of_ble_eq_true rfl⟩ dX7_answer_99 (fun w1 hz9 => ?_)
              obtain rfl := hz9
              refine zg_iload_n X dX7_answer_102 rfl ?_
              refine zg_bipush X (v := 114) dX7_answer_103 (by decide) ?_
              refine zg_icmp_ne X dX7_answer_105 (tgt := 112) (by decide) (fun c_105 => ?_) (fun c_105 => ?_)
              · skip
                have hX := ans_k (x := x) hI hU h1 c_72 hvn c_105
                refine zg_aload_n X dX7_answer_112 rfl ?_
                refine zg_aload_n X dX7_answer_113 rfl ?_
                refine zg_callVi X (k_X7_undecidedMany l D ad T (decI (uN σ 8 0) j1 v x) (zI_ovl hX.1 hX.2.2.1).bd) zFr.rf gX7_answer_X7_undecidedMany rfl rfl rfl qv_X7_undecidedMany rfl ⟨Nat.le_of_ble_eq_true rfl, Nat.le_of_ble_eq_true rfl⟩ (q0 := 0) (ci := 9) rfl rfl rfl (Nat.le_of_ble_eq_true rfl) ⟨Nat.le_of_ble_eq_true rfl, Nat.le_of_ble_eq_true rfl⟩ dX7_answer_114 (fun r w1 hz9 => ?_)
                obtain ⟨rfl, rfl⟩ := hz9
                refine zg_top (show _ = nI ((ansI σ x j1 v).1 6) from congrArg nI (mT_cnt hX.1 hX.2.2.2)) ?_
                have h69 : (ansI σ x j1 v).1 6 < 2 ^ 31 := by have q1 := hX.2.2.2; have q2 := hX.2.2.1.bd.2.2.2.2.1; have q3 := cntP_le (f := (ansI σ x j1 v).2.2 17) ((ansI σ x j1 v).1 4); unfold zU at q1; omega
                refine zg_ifn_le X dX7_answer_117 (tgt := 124) (by decide) (by omega) (fun c_117 => ?_) (fun c_117 => ?_)
                · skip
                  refine zg_iconst X (v := 0) dX7_answer_124 (by decide) ?_
                  refine rp_M_isOpen X f7 l175 rfl rfl dX7_answer_125 ?_
                  refine zg_aload_n X dX7_answer_128 rfl ?_
                  refine zg_callVi X (k_X7_undecidedMany l D ad T (uN (decI (uN σ 8 0) j1 v x) 7 0) (show zBd (uN (decI (uN σ 8 0) j1 v x) 7 0) from (zI_ovl hX.1 hX.2.2.1).bd)) zFr.rf gX7_answer_X7_undecidedMany rfl rfl rfl qv_X7_undecidedMany rfl ⟨Nat.le_of_ble_eq_true rfl, Nat.le_of_ble_eq_true rfl⟩ (q0 := 0) (ci := 9) rfl rfl rfl (Nat.le_of_ble_eq_true rfl) ⟨Nat.le_of_ble_eq_true rfl, Nat.le_of_ble_eq_true rfl⟩ dX7_answer_129 (fun r w1 hz9 => ?_)
                  obtain ⟨rfl, rfl⟩ := hz9
                  refine zg_top (show _ = nI ((ansI σ x j1 v).1 6) from congrArg nI (mT_cnt (ovl_tr ovl_7 hX.1) hX.2.2.2)) ?_
                  exact zg_iret X hr dX7_answer_132 (Nat.le_of_ble_eq_true rfl) (Nat.le_of_ble_eq_true rfl) (⟨uN (decI (uN σ 8 0) j1 v x) 7 0, ans_e hX (bI_f (by omega)).symm (by rw [sp_answer, if_pos h6, if_pos (And.intro p0 p1), if_pos hv, ix_nI (by omega), eg, ix_nI (by omega), if_pos (show σ.2.2 17 j1 = 117 ∧ revI σ g0 = x from And.intro c_72 c_86)]), rfl⟩)
                · skip
                  refine zg_iconst X (v := 1) dX7_answer_120 (by decide) ?_
                  refine zg_goto X dX7_answer_121 (tgt := 125) (by decide) ?_
                  refine rp_M_isOpen X f7 l175 rfl rfl dX7_answer_125 ?_
                  refine zg_aload_n X dX7_answer_128 rfl ?_
                  refine zg_callVi X (k_X7_undecidedMany l D ad T (uN (decI (uN σ 8 0) j1 v x) 7 1) (show zBd (uN (decI (uN σ 8 0) j1 v x) 7 1) from (zI_ovl hX.1 hX.2.2.1).bd)) zFr.rf gX7_answer_X7_undecidedMany rfl rfl rfl qv_X7_undecidedMany rfl ⟨Nat.le_of_ble_eq_true rfl, Nat.le_of_ble_eq_true rfl⟩ (q0 := 0) (ci := 9) rfl rfl rfl (Nat.le_of_ble_eq_true rfl) ⟨Nat.le_of_ble_eq_true rfl, Nat.le_of_ble_eq_true rfl⟩ dX7_answer_129 (fun r w1 hz9 => ?_)
                  obtain ⟨rfl, rfl⟩ := hz9
                  refine zg_top (show _ = nI ((ansI σ x j1 v).1 6) from congrArg nI (mT_cnt (ovl_tr ovl_7 hX.1) hX.2.2.2)) ?_
                  exact zg_iret X hr dX7_answer_132 (Nat.le_of_ble_eq_true rfl) (Nat.le_of_ble_eq_true rfl) (⟨uN (decI (uN σ 8 0) j1 v x) 7 1, ans_e hX (bI_t (by omega)).symm (by rw [sp_answer, if_pos h6, if_pos (And.intro p0 p1), if_pos hv, ix_nI (by omega), eg, ix_nI (by omega), if_pos (show σ.2.2 17 j1 = 117 ∧ revI σ g0 = x from And.intro c_72 c_86)]), rfl⟩)
              · skip
                refine zg_aload_n X dX7_answer_108 rfl ?_
                refine zg_callVv X (k_X7_looks l D ad T (decI (uN σ 8 0) j1 v x) (zI_dec (σ := uN σ 8 0) hI) (zR_dec (σ := uN σ 8 0) hR)) zFr.rf gX7_answer_X7_looks rfl rfl rfl qv_X7_looks rfl ⟨Nat.le_of_ble_eq_true rfl, Nat.le_of_ble_eq_true rfl⟩ (q0 := 0) (ci := 9) rfl rfl rfl (Nat.le_of_ble_eq_true rfl) ⟨Nat.le_of_ble_eq_true rfl, Nat.le_of_ble_eq_true rfl⟩ dX7_answer_109 (fun w1 hz9 => ?_)
                obtain ⟨t2, ho2, hn2, rfl⟩ := hz9
                have hX := ans_r (x := x) hI hU h1 c_72 hvn c_105 ho2 hn2
                refine zg_aload_n X dX7_answer_112 rfl ?_
                refine zg_aload_n X dX7_answer_113 rfl ?_
                refine zg_callVi X (k_X7_undecidedMany l D ad T t2 (zI_ovl hX.1 hX.2.2.1).bd) zFr.rf gX7_answer_X7_undecidedMany rfl rfl rfl qv_X7_undecidedMany rfl ⟨Nat.le_of_ble_eq_true rfl, Nat.le_of_ble_eq_true rfl⟩ (q0 := 0) (ci := 9) rfl rfl rfl (Nat.le_of_ble_eq_true rfl) ⟨Nat.le_of_ble_eq_true rfl, Nat.le_of_ble_eq_true rfl⟩ dX7_answer_114 (fun r w1 hz9 => ?_)
                obtain ⟨rfl, rfl⟩ := hz9
                refine zg_top (show _ = nI ((ansI σ x j1 v).1 6) from congrArg nI (mT_cnt hX.1 hX.2.2.2)) ?_
                have h69 : (ansI σ x j1 v).1 6 < 2 ^ 31 := by have q1 := hX.2.2.2; have q2 := hX.2.2.1.bd.2.2.2.2.1; have q3 := cntP_le (f := (ansI σ x j1 v).2.2 17) ((ansI σ x j1 v).1 4); unfold zU at q1; omega
                refine zg_ifn_le X dX7_answer_117 (tgt := 124) (by decide) (by omega) (fun c_117 => ?_) (fun c_117 => ?_)
                · skip
                  refine zg_iconst X (v := 0) dX7_answer_124 (by decide) ?_
                  refine rp_M_isOpen X f7 l175 rfl rfl dX7_answer_125 ?_
                  refine zg_aload_n X dX7_answer_128 rfl ?_
                  refine zg_callVi X (k_X7_undecidedMany l D ad T (uN t2 7 0) (show zBd (uN t2 7 0) from (zI_ovl hX.1 hX.2.2.1).bd)) zFr.rf gX7_answer_X7_undecidedMany rfl rfl rfl qv_X7_undecidedMany rfl ⟨Nat.le_of_ble_eq_true rfl, Nat.le_of_ble_eq_true rfl⟩ (q0 := 0) (ci := 9) rfl rfl rfl (Nat.le_of_ble_eq_true rfl) ⟨Nat.le_of_ble_eq_true rfl, Nat.le_of_ble_eq_true rfl⟩ dX7_answer_129 (fun r w1 hz9 => ?_)
                  obtain ⟨rfl, rfl⟩ := hz9
                  refine zg_top (show _ = nI ((ansI σ x j1 v).1 6) from congrArg nI (mT_cnt (ovl_tr ovl_7 hX.1) hX.2.2.2)) ?_
                  exact zg_iret X hr dX7_answer_132 (Nat.le_of_ble_eq_true rfl) (Nat.le_of_ble_eq_true rfl) (⟨uN t2 7 0, ans_e hX (bI_f (by omega)).symm (by rw [sp_answer, if_pos h6, if_pos (And.intro p0 p1), if_pos hv, ix_nI (by omega), eg, ix_nI (by omega), if_pos (show σ.2.2 17 j1 = 117 ∧ revI σ g0 = x from And.intro c_72 c_86)]), rfl⟩)
                · skip
                  refine zg_iconst X (v := 1) dX7_answer_120 (by decide) ?_
                  refine zg_goto X dX7_answer_121 (tgt := 125) (by decide) ?_
                  refine rp_M_isOpen X f7 l175 rfl rfl dX7_answer_125 ?_
                  refine zg_aload_n X dX7_answer_128 rfl ?_
                  refine zg_callVi X (k_X7_undecidedMany l D ad T (uN t2 7 1) (show zBd (uN t2 7 1) from (zI_ovl hX.1 hX.2.2.1).bd)) zFr.rf gX7_answer_X7_undecidedMany rfl rfl rfl qv_X7_undecidedMany rfl ⟨Nat.le_of_ble_eq_true rfl, Nat.le_of_ble_eq_true rfl⟩ (q0 := 0) (ci := 9) rfl rfl rfl (Nat.le_of_ble_eq_true rfl) ⟨Nat.le_of_ble_eq_true rfl, Nat.le_of_ble_eq_true rfl⟩ dX7_answer_129 (fun r w1 hz9 => ?_)
                  obtain ⟨rfl, rfl⟩ := hz9
                  refine zg_top (show _ = nI ((ansI σ x j1 v).1 6) from congrArg nI (mT_cnt (ovl_tr ovl_7 hX.1) hX.2.2.2)) ?_
                  exact zg_iret X hr dX7_answer_132 (Nat.le_of_ble_eq_true rfl) (Nat.le_of_ble_eq_true rfl) (⟨uN t2 7 1, ans_e hX (bI_t (by omega)).symm (by rw [sp_answer, if_pos h6, if_pos (And.intro p0 p1), if_pos hv, ix_nI (by omega), eg, ix_nI (by omega), if_pos (show σ.2.2 17 j1 = 117 ∧ revI σ g0 = x from And.intro c_72 c_86)]), rfl⟩)
            · skip
              refine zg_aload_n X dX7_answer_89 rfl ?_
              refine zg_iconst X (v := 4) dX7_answer_90 (by decide) ?_
              refine zg_callVi X (k_X7_fails l D ad T (uN σ 8 0) 4) zFr.rf gX7_answer_X7_fails rfl rfl rfl qv_X7_fails rfl ⟨Nat.le_of_ble_eq_true rfl, Nat.le_of_ble_eq_true rfl⟩ (q0 := 0) (ci := 9) rfl rfl rfl (Nat.le_of_ble_eq_true rfl) ⟨Nat.le_of_ble_eq_true rfl, Nat.le_of_ble_eq_true rfl⟩ dX7_answer_91 (fun r w1 hz9 => ?_)
              obtain ⟨rfl, rfl⟩ := hz9
              exact zg_iret X hr dX7_answer_94 (Nat.le_of_ble_eq_true rfl) (Nat.le_of_ble_eq_true rfl) (⟨uN (uN σ 8 0) 8 4, mR_f 3 (by rw [sp_answer, if_pos h6, if_pos (And.intro p0 p1), if_pos hv, ix_nI (by omega), eg, ix_nI (by omega), if_neg (fun q => c_86 q.2)]) rfl rfl, rfl⟩)
        · skip
          refine zg_iload_n X dX7_answer_52 rfl ?_
          refine zg_bipush X (v := 114) dX7_answer_53 (by decide) ?_
          refine zg_icmp_eq X dX7_answer_55 (tgt := 64) (by decide) (fun c_55 => ?_) (fun c_55 => ?_)
          · skip
            have hv : v = 107 ∨ v = 114 := by first | exact Or.inl c_49 | exact Or.inr c_55
            have hvc : vp_nar .char v = v := by rcases hv with rfl | rfl <;> rfl
            have hvn : ¬ v = 117 := by rcases hv with rfl | rfl <;> decide
            refine zg_aload_n X dX7_answer_64 rfl ?_
            refine rg_M_verdicts X f7 l79 dX7_answer_65 ?_
            refine zg_iload_n X dX7_answer_68 rfl ?_
            refine rlM_verdicts X (by omega) dX7_answer_69 ?_
            refine zg_bipush X (v := 117) dX7_answer_70 (by decide) ?_
            refine zg_icmp_ne X dX7_answer_72 (tgt := 89) (by decide) (fun c_72 => ?_) (fun c_72 => ?_)
            · skip
              refine zg_aload_n X dX7_answer_89 rfl ?_
              refine zg_iconst X (v := 4) dX7_answer_90 (by decide) ?_
              refine zg_callVi X (k_X7_fails l D ad T (uN σ 8 0) 4) zFr.rf gX7_answer_X7_fails rfl rfl rfl qv_X7_fails rfl ⟨Nat.le_of_ble_eq_true rfl, Nat.le_of_ble_eq_true rfl⟩ (q0 := 0) (ci := 9) rfl rfl rfl (Nat.le_of_ble_eq_true rfl) ⟨Nat.le_of_ble_eq_true rfl, Nat.le_of_ble_eq_true rfl⟩ dX7_answer_91 (fun r w1 hz9 => ?_)
              obtain ⟨rfl, rfl⟩ := hz9
              exact zg_iret X hr dX7_answer_94 (Nat.le_of_ble_eq_true rfl) (Nat.le_of_ble_eq_true rfl) (⟨uN (uN σ 8 0) 8 4, mR_f 3 (by rw [sp_answer, if_pos h6, if_pos (And.intro p0 p1), if_pos hv, ix_nI (by omega), if_neg (fun q => c_72 q.1)]) rfl rfl, rfl⟩)
            · skip
              refine zg_aload_n X dX7_answer_75 rfl ?_
              refine zg_aload_n X dX7_answer_76 rfl ?_
              refine rg_M_itemGrants X f7 l73 dX7_answer_77 ?_
              refine zg_iload_n X dX7_answer_80 rfl ?_
              refine rlM_itemGrants X (by omega) dX7_answer_81 ?_
              obtain ⟨g0, hg0, eg⟩ := hI.itm j1 h1
              refine zg_top (show _ = nI g0 from eg) ?_
              refine zg_callVi X (k_X7_reviewer l D ad T (uN σ 8 0) hI g0 hg0) zFr.rf gX7_answer_X7_reviewer rfl rfl rfl qv_X7_reviewer rfl ⟨Nat.le_of_ble_eq_true rfl, Nat.le_of_ble_eq_true rfl⟩ (q0 := 0) (ci := 9) rfl rfl rfl (Nat.le_of_ble_eq_true rfl) ⟨Nat.le_of_ble_eq_true rfl, Nat.le_of_ble_eq_true rfl⟩ dX7_answer_82 (fun r w1 hz9 => ?_)
              obtain ⟨rfl, rfl⟩ := hz9
              refine zg_top revI_8 ?_
              refine zg_iload_n X dX7_answer_85 rfl ?_
              refine zg_icmp_eq X dX7_answer_86 (tgt := 95) (by decide) (fun c_86 => ?_) (fun c_86 => ?_)
              · skip
                refine zg_aload_n X dX7_answer_95 rfl ?_
                refine zg_iload_n X dX7_answer_96 rfl ?_
                refine zg_iload_n X dX7_answer_97 rfl ?_
                refine zg_iload_n X dX7_answer_98 rfl ?_
                refine zg_callVv X (k_X7_decides l D ad T (uN σ 8 0) hI j1 x v h1 hR hvc) zFr.rf gX7_answer_X7_decides rfl rfl rfl qv_X7_decides rfl ⟨Nat.le_of_ble_eq_true rfl, Nat.le_of_ble_eq_true rfl⟩ (q0 := 0) (ci := 9) rfl rfl rfl (Nat.le_of_ble_eq_true rfl) ⟨Nat.le_of_ble_eq_true rfl, Nat.le_of_ble_eq_true rfl⟩ dX7_answer_99 (fun w1 hz9 => ?_)
                obtain rfl := hz9
                refine zg_iload_n X dX7_answer_102 rfl ?_
                refine zg_bipush X (v := 114) dX7_answer_103 (by decide) ?_
                refine zg_icmp_ne X dX7_answer_105 (tgt := 112) (by decide) (fun c_105 => ?_) (fun c_105 => ?_)
                · skip
                  have hX := ans_k (x := x) hI hU h1 c_72 hvn c_105
                  refine zg_aload_n X dX7_answer_112 rfl ?_
                  refine zg_aload_n X dX7_answer_113 rfl ?_
                  refine zg_callVi X (k_X7_undecidedMany l D ad T (decI (uN σ 8 0) j1 v x) (zI_ovl hX.1 hX.2.2.1).bd) zFr.rf gX7_answer_X7_undecidedMany rfl rfl rfl qv_X7_undecidedMany rfl ⟨Nat.le_of_ble_eq_true rfl, Nat.le_of_ble_eq_true rfl⟩ (q0 := 0) (ci := 9) rfl rfl rfl (Nat.le_of_ble_eq_true rfl) ⟨Nat.le_of_ble_eq_true rfl, Nat.le_of_ble_eq_true rfl⟩ dX7_answer_114 (fun r w1 hz9 => ?_)
                  obtain ⟨rfl, rfl⟩ := hz9
                  refine zg_top (show _ = nI ((ansI σ x j1 v).1 6) from congrArg nI (mT_cnt hX.1 hX.2.2.2)) ?_
                  have h69 : (ansI σ x j1 v).1 6 < 2 ^ 31 := by have q1 := hX.2.2.2; have q2 := hX.2.2.1.bd.2.2.2.2.1; have q3 := cntP_le (f := (ansI σ x j1 v).2.2 17) ((ansI σ x j1 v).1 4); unfold zU at q1; omega
                  refine zg_ifn_le X dX7_answer_117 (tgt := 124) (by decide) (by omega) (fun c_117 => ?_) (fun c_117 => ?_)
                  · skip
                    refine zg_iconst X (v := 0) dX7_answer_124 (by decide) ?_
                    refine rp_M_isOpen X f7 l175 rfl rfl dX7_answer_125 ?_
                    refine zg_aload_n X dX7_answer_128 rfl ?_
                    refine zg_callVi X (k_X7_undecidedMany l D ad T (uN (decI (uN σ 8 0) j1 v x) 7 0) (show zBd (uN (decI (uN σ 8 0) j1 v x) 7 0) from (zI_ovl hX.1 hX.2.2.1).bd)) zFr.rf gX7_answer_X7_undecidedMany rfl rfl rfl qv_X7_undecidedMany rfl ⟨Nat.le_of_ble_eq_true rfl, Nat.le_of_ble_eq_true rfl⟩ (q0 := 0) (ci := 9) rfl rfl rfl (Nat.le_of_ble_eq_true rfl) ⟨Nat.le_of_ble_eq_true rfl, Nat.le_of_ble_eq_true rfl⟩ dX7_answer_129 (fun r w1 hz9 => ?_)
                    obtain ⟨rfl, rfl⟩ := hz9
                    refine zg_top (show _ = nI ((ansI σ x j1 v).1 6) from congrArg nI (mT_cnt (ovl_tr ovl_7 hX.1) hX.2.2.2)) ?_
                    exact zg_iret X hr dX7_answer_132 (Nat.le_of_ble_eq_true rfl) (Nat.le_of_ble_eq_true rfl) (⟨uN (decI (uN σ 8 0) j1 v x) 7 0, ans_e hX (bI_f (by omega)).symm (by rw [sp_answer, if_pos h6, if_pos (And.intro p0 p1), if_pos hv, ix_nI (by omega), eg, ix_nI (by omega), if_pos (show σ.2.2 17 j1 = 117 ∧ revI σ g0 = x from And.intro c_72 c_86)]), rfl⟩)
                  · skip
                    refine zg_iconst X (v := 1) dX7_answer_120 (by decide) ?_
                    refine zg_goto X dX7_answer_121 (tgt := 125) (by decide) ?_
                    refine rp_M_isOpen X f7 l175 rfl rfl dX7_answer_125 ?_
                    refine zg_aload_n X dX7_answer_128 rfl ?_
                    refine zg_callVi X (k_X7_undecidedMany l D ad T (uN (decI (uN σ 8 0) j1 v x) 7 1) (show zBd (uN (decI (uN σ 8 0) j1 v x) 7 1) from (zI_ovl hX.1 hX.2.2.1).bd)) zFr.rf gX7_answer_X7_undecidedMany rfl rfl rfl qv_X7_undecidedMany rfl ⟨Nat.le_of_ble_eq_true rfl, Nat.le_of_ble_eq_true rfl⟩ (q0 := 0) (ci := 9) rfl rfl rfl (Nat.le_of_ble_eq_true rfl) ⟨Nat.le_of_ble_eq_true rfl, Nat.le_of_ble_eq_true rfl⟩ dX7_answer_129 (fun r w1 hz9 => ?_)
                    obtain ⟨rfl, rfl⟩ := hz9
                    refine zg_top (show _ = nI ((ansI σ x j1 v).1 6) from congrArg nI (mT_cnt (ovl_tr ovl_7 hX.1) hX.2.2.2)) ?_
                    exact zg_iret X hr dX7_answer_132 (Nat.le_of_ble_eq_true rfl) (Nat.le_of_ble_eq_true rfl) (⟨uN (decI (uN σ 8 0) j1 v x) 7 1, ans_e hX (bI_t (by omega)).symm (by rw [sp_answer, if_pos h6, if_pos (And.intro p0 p1), if_pos hv, ix_nI (by omega), eg, ix_nI (by omega), if_pos (show σ.2.2 17 j1 = 117 ∧ revI σ g0 = x from And.intro c_72 c_86)]), rfl⟩)
                · skip
                  refine zg_aload_n X dX7_answer_108 rfl ?_
                  refine zg_callVv X (k_X7_looks l D ad T (decI (uN σ 8 0) j1 v x) (zI_dec (σ := uN σ 8 0) hI) (zR_dec (σ := uN σ 8 0) hR)) zFr.rf gX7_answer_X7_looks rfl rfl rfl qv_X7_looks rfl ⟨Nat.le_of_ble_eq_true rfl, Nat.le_of_ble_eq_true rfl⟩ (q0 := 0) (ci := 9) rfl rfl rfl (Nat.le_of_ble_eq_true rfl) ⟨Nat.le_of_ble_eq_true rfl, Nat.le_of_ble_eq_true rfl⟩ dX7_answer_109 (fun w1 hz9 => ?_)
                  obtain ⟨t2, ho2, hn2, rfl⟩ := hz9
                  have hX := ans_r (x := x) hI hU h1 c_72 hvn c_105 ho2 hn2
                  refine zg_aload_n X dX7_answer_112 rfl ?_
                  refine zg_aload_n X dX7_answer_113 rfl ?_
                  refine zg_callVi X (k_X7_undecidedMany l D ad T t2 (zI_ovl hX.1 hX.2.2.1).bd) zFr.rf gX7_answer_X7_undecidedMany rfl rfl rfl qv_X7_undecidedMany rfl ⟨Nat.le_of_ble_eq_true rfl, Nat.le_of_ble_eq_true rfl⟩ (q0 := 0) (ci := 9) rfl rfl rfl (Nat.le_of_ble_eq_true rfl) ⟨Nat.le_of_ble_eq_true rfl, Nat.le_of_ble_eq_true rfl⟩ dX7_answer_114 (fun r w1 hz9 => ?_)
                  obtain ⟨rfl, rfl⟩ := hz9
                  refine zg_top (show _ = nI ((ansI σ x j1 v).1 6) from congrArg nI (mT_cnt hX.1 hX.2.2.2)) ?_
                  have h69 : (ansI σ x j1 v).1 6 < 2 ^ 31 := by have q1 := hX.2.2.2; have q2 := hX.2.2.1.bd.2.2.2.2.1; have q3 := cntP_le (f := (ansI σ x j1 v).2.2 17) ((ansI σ x j1 v).1 4); unfold zU at q1; omega
                  refine zg_ifn_le X dX7_answer_117 (tgt := 124) (by decide) (by omega) (fun c_117 => ?_) (fun c_117 => ?_)
                  · skip
                    refine zg_iconst X (v := 0) dX7_answer_124 (by decide) ?_
                    refine rp_M_isOpen X f7 l175 rfl rfl dX7_answer_125 ?_
                    refine zg_aload_n X dX7_answer_128 rfl ?_
                    refine zg_callVi X (k_X7_undecidedMany l D ad T (uN t2 7 0) (show zBd (uN t2 7 0) from (zI_ovl hX.1 hX.2.2.1).bd)) zFr.rf gX7_answer_X7_undecidedMany rfl rfl rfl qv_X7_undecidedMany rfl ⟨Nat.le_of_ble_eq_true rfl, Nat.le_of_ble_eq_true rfl⟩ (q0 := 0) (ci := 9) rfl rfl rfl (Nat.le_of_ble_eq_true rfl) ⟨Nat.le_of_ble_eq_true rfl, Nat.le_of_ble_eq_true rfl⟩ dX7_answer_129 (fun r w1 hz9 => ?_)
                    obtain ⟨rfl, rfl⟩ := hz9
                    refine zg_top (show _ = nI ((ansI σ x j1 v).1 6) from congrArg nI (mT_cnt (ovl_tr ovl_7 hX.1) hX.2.2.2)) ?_
                    exact zg_iret X hr dX7_answer_132 (Nat.le_of_ble_eq_true rfl) (Nat.le_of_ble_eq_true rfl) (⟨uN t2 7 0, ans_e hX (bI_f (by omega)).symm (by rw [sp_answer, if_pos h6, if_pos (And.intro p0 p1), if_pos hv, ix_nI (by omega), eg, ix_nI (by omega), if_pos (show σ.2.2 17 j1 = 117 ∧ revI σ g0 = x from And.intro c_72 c_86)]), rfl⟩)
                  · skip
                    refine zg_iconst X (v := 1) dX7_answer_120 (by decide) ?_
                    refine zg_goto X dX7_answer_121 (tgt := 125) (by decide) ?_
                    refine rp_M_isOpen X f7 l175 rfl rfl dX7_answer_125 ?_
                    refine zg_aload_n X dX7_answer_128 rfl ?_
                    refine zg_callVi X (k_X7_undecidedMany l D ad T (uN t2 7 1) (show zBd (uN t2 7 1) from (zI_ovl hX.1 hX.2.2.1).bd)) zFr.rf gX7_answer_X7_undecidedMany rfl rfl rfl qv_X7_undecidedMany rfl ⟨Nat.le_of_ble_eq_true rfl, Nat.le_of_ble_eq_true rfl⟩ (q0 := 0) (ci := 9) rfl rfl rfl (Nat.le_of_ble_eq_true rfl) ⟨Nat.le_of_ble_eq_true rfl, Nat.le_of_ble_eq_true rfl⟩ dX7_answer_129 (fun r w1 hz9 => ?_)
                    obtain ⟨rfl, rfl⟩ := hz9
                    refine zg_top (show _ = nI ((ansI σ x j1 v).1 6) from congrArg nI (mT_cnt (ovl_tr ovl_7 hX.1) hX.2.2.2)) ?_
                    exact zg_iret X hr dX7_answer_132 (Nat.le_of_ble_eq_true rfl) (Nat.le_of_ble_eq_true rfl) (⟨uN t2 7 1, ans_e hX (bI_t (by omega)).symm (by rw [sp_answer, if_pos h6, if_pos (And.intro p0 p1), if_pos hv, ix_nI (by omega), eg, ix_nI (by omega), if_pos (show σ.2.2 17 j1 = 117 ∧ revI σ g0 = x from And.intro c_72 c_86)]), rfl⟩)
              · skip
                refine zg_aload_n X dX7_answer_89 rfl ?_
                refine zg_iconst X (v := 4) dX7_answer_90 (by decide) ?_
                refine zg_callVi X (k_X7_fails l D ad T (uN σ 8 0) 4) zFr.rf gX7_answer_X7_fails rfl rfl rfl qv_X7_fails rfl ⟨Nat.le_of_ble_eq_true rfl, Nat.le_of_ble_eq_true rfl⟩ (q0 := 0) (ci := 9) rfl rfl rfl (Nat.le_of_ble_eq_true rfl) ⟨Nat.le_of_ble_eq_true rfl, Nat.le_of_ble_eq_true rfl⟩ dX7_answer_91 (fun r w1 hz9 => ?_)
                obtain ⟨rfl, rfl⟩ := hz9
                exact zg_iret X hr dX7_answer_94 (Nat.le_of_ble_eq_true rfl) (Nat.le_of_ble_eq_true rfl) (⟨uN (uN σ 8 0) 8 4, mR_f 3 (by rw [sp_answer, if_pos h6, if_pos (And.intro p0 p1), if_pos hv, ix_nI (by omega), eg, ix_nI (by omega), if_neg (fun q => c_86 q.2)]) rfl rfl, rfl⟩)
          · skip
            refine zg_aload_n X dX7_answer_58 rfl ?_
            refine zg_iconst X (v := 3) dX7_answer_59 (by decide) ?_
            refine zg_callVi X (k_X7_fails l D ad T (uN σ 8 0) 3) zFr.rf gX7_answer_X7_fails rfl rfl rfl qv_X7_fails rfl ⟨Nat.le_of_ble_eq_true rfl, Nat.le_of_ble_eq_true rfl⟩ (q0 := 0) (ci := 9) rfl rfl rfl (Nat.le_of_ble_eq_true rfl) ⟨Nat.le_of_ble_eq_true rfl, Nat.le_of_ble_eq_true rfl⟩ dX7_answer_60 (fun r w1 hz9 => ?_)
            obtain ⟨rfl, rfl⟩ := hz9
            exact zg_iret X hr dX7_answer_63 (Nat.le_of_ble_eq_true rfl) (Nat.le_of_ble_eq_true rfl) (⟨uN (uN σ 8 0) 8 3, mR_f 2 (by rw [sp_answer, if_pos h6, if_pos (And.intro p0 p1), if_neg (fun q => q.elim c_49 c_55)]) rfl rfl, rfl⟩)
      · skip
        refine zg_aload_n X dX7_answer_40 rfl ?_
        refine zg_iconst X (v := 2) dX7_answer_41 (by decide) ?_
        refine zg_callVi X (k_X7_fails l D ad T (uN σ 8 0) 2) zFr.rf gX7_answer_X7_fails rfl rfl rfl qv_X7_fails rfl ⟨Nat.le_of_ble_eq_true rfl, Nat.le_of_ble_eq_true rfl⟩ (q0 := 0) (ci := 9) rfl rfl rfl (Nat.le_of_ble_eq_true rfl) ⟨Nat.le_of_ble_eq_true rfl, Nat.le_of_ble_eq_true rfl⟩ dX7_answer_42 (fun r w1 hz9 => ?_)
        obtain ⟨rfl, rfl⟩ := hz9
        exact zg_iret X hr dX7_answer_45 (Nat.le_of_ble_eq_true rfl) (Nat.le_of_ble_eq_true rfl) (⟨uN (uN σ 8 0) 8 2, mR_f 1 (by rw [sp_answer, if_pos h6, if_neg (fun q => c_37 q.2)]) rfl rfl, rfl⟩)
  · skip
    refine zg_aload_n X dX7_answer_12 rfl ?_
    refine zg_iconst X (v := 1) dX7_answer_13 (by decide) ?_
    refine zg_callVi X (k_X7_fails l D ad T (uN σ 8 0) 1) zFr.rf gX7_answer_X7_fails rfl rfl rfl qv_X7_fails rfl ⟨Nat.le_of_ble_eq_true rfl, Nat.le_of_ble_eq_true rfl⟩ (q0 := 0) (ci := 9) rfl rfl rfl (Nat.le_of_ble_eq_true rfl) ⟨Nat.le_of_ble_eq_true rfl, Nat.le_of_ble_eq_true rfl⟩ dX7_answer_14 (fun r w1 hz9 => ?_)
    obtain ⟨rfl, rfl⟩ := hz9
    exact zg_iret X hr dX7_answer_17 (Nat.le_of_ble_eq_true rfl) (Nat.le_of_ble_eq_true rfl) (⟨uN (uN σ 8 0) 8 1, mR_f 0 (by rw [sp_answer, if_neg (bI_z (hO.symm.trans c_9))]) rfl rfl, rfl⟩)

set_option maxHeartbeats 4000000 in
set_option maxRecDepth 100000 in
theorem k_X7_openCampaign (l : Launch) (D : va_G) (ad : Nat → Nat) (T : Nat → ClassId) (σ : ZS) (hI : zI σ) (x : Int32) (hO : σ.2.1 7 = bI (0 < σ.1 6)) : zM l yX7_openCampaign wsX7_openCampaign ({ frames := 1, cells := 0, slots := 0, locals := 22 }) D (zT T) [.ref (ad 0), .int x] (wM ad T σ) 0 0 (qI D (zT T) (fun v0 w => ∃ t, mR [eIA, eIS] σ (sp_openCampaign σ x) v0 t ∧ w = wM ad T t)) := by
  have hB0 := hI.bd
  obtain ⟨b0, b1, b2, b3, b4, b5⟩ := hI.bd
  refine zg_of (cc := cX7_openCampaign) (maxL := 4) (ret := (some .int)) (by decide) rfl (Nat.le_of_ble_eq_true rfl) (fun p e s m below meth c A hin hr X => ?_)
  have X : zC p s m _ meth c cX7_openCampaign 4 wsX7_openCampaign RX7 D (zT T) A := X
  have f7 : ∀ w ∈ u_ws RX7 TX7 37, w ∈ wsX7_openCampaign := by decide +kernel
  have l105 : Cond.fieldLink RX7 105 "RecertifyModel" "grants" "I" ∈ wsX7_openCampaign := by decide +kernel
  have l134 : Cond.fieldLink RX7 134 "RecertifyModel" "day" "I" ∈ wsX7_openCampaign := by decide +kernel
  have l175 : Cond.fieldLink RX7 175 "RecertifyModel" "isOpen" "Z" ∈ wsX7_openCampaign := by decide +kernel
  have l179 : Cond.fieldLink RX7 179 "RecertifyModel" "items" "I" ∈ wsX7_openCampaign := by decide +kernel
  have l182 : Cond.fieldLink RX7 182 "RecertifyModel" "deadline" "I" ∈ wsX7_openCampaign := by decide +kernel
  have l56 : Cond.fieldLink RX7 56 "RecertifyModel" "states" "[C" ∈ wsX7_openCampaign := by decide +kernel
  have l73 : Cond.fieldLink RX7 73 "RecertifyModel" "itemGrants" "[I" ∈ wsX7_openCampaign := by decide +kernel
  have l79 : Cond.fieldLink RX7 79 "RecertifyModel" "verdicts" "[C" ∈ wsX7_openCampaign := by decide +kernel
  have l85 : Cond.fieldLink RX7 85 "RecertifyModel" "thrown" "I" ∈ wsX7_openCampaign := by decide +kernel
  refine zg_aload_n X dX7_openCampaign_0 rfl ?_
  refine zg_iconst X (v := 0) dX7_openCampaign_1 (by decide) ?_
  refine rp_M_thrown X f7 l85 dX7_openCampaign_2 ?_
  refine zg_iload_n X dX7_openCampaign_5 rfl ?_
  refine zg_iconst X (v := 1) dX7_openCampaign_6 (by decide) ?_
  refine zg_bipush X (v := 30) dX7_openCampaign_7 (by decide) ?_
  refine zg_callSi X (k_X7_isBetween l D ad T (uN σ 8 0) x 1 30) zFr.rf gX7_openCampaign_X7_isBetween rfl rfl rfl qd_X7_isBetween rfl ⟨Nat.le_of_ble_eq_true rfl, Nat.le_of_ble_eq_true rfl⟩ rfl (Nat.le_of_ble_eq_true rfl) ⟨Nat.le_of_ble_eq_true rfl, Nat.le_of_ble_eq_true rfl⟩ dX7_openCampaign_9 (fun r w1 hz9 => ?_)
  obtain ⟨rfl, rfl⟩ := hz9
  refine zg_if_neb X dX7_openCampaign_12 (tgt := 21) (by decide) (fun c_12 => ?_) (fun c_12 => ?_)
  · skip
    have hd := c_12
    refine zg_iconst X (v := 0) dX7_openCampaign_21 (by decide) ?_
    refine zg_istore_n X dX7_openCampaign_22 (by decide) ?_
    refine zg_iconst X (v := 0) dX7_openCampaign_23 (by decide) ?_
    refine zg_istore_n X dX7_openCampaign_24 (by decide) ?_
    have LP25 : ∀ (fu : Nat) (i : Nat) (c0 : Nat), σ.1 3 + 1 ≤ i + fu → i ≤ σ.1 3 → c0 = cnA (σ.2.2 11) i → zG p l e (headSpec wsX7_openCampaign ({ frames := 1, cells := 0, slots := 0, locals := 22 })).room s m [.ref (ad 0), .int x].toArray below meth c D 4 A 0 0 (MQ below (qI D (zT T) (fun v0 w => ∃ t, mR [eIA, eIS] σ (sp_openCampaign σ x) v0 t ∧ w = wM ad T t) A) [.ref (ad 0), .int x].toArray s 0 0 A) (wM ad T (uN σ 8 0)) 25 [(0, .ref (ad 0)), (1, .int x), (2, .int (nI c0)), (3, .int (nI i))] [] := by
      intro fu
      induction fu with
      | zero => intro i c0 hfu hii _; exact absurd hfu (by omega)
      | succ fu ih25 =>
        intro i c0 hfu hii hc0
        refine zg_iload_n X dX7_openCampaign_25 rfl ?_
        refine zg_aload_n X dX7_openCampaign_26 rfl ?_
        refine rg_M_grants X f7 l105 dX7_openCampaign_27 ?_
        refine zg_icmpn_ge X dX7_openCampaign_30 (tgt := 58) (by decide) (a := i) (b := σ.1 3) (by omega) (by omega) (fun c_30 => ?_) (fun c_30 => ?_)
        · skip
          have hc1 : c0 = cnA (σ.2.2 11) (σ.1 3) := by rw [hc0, show i = σ.1 3 by omega]
          have hcl := cnA_le (f := σ.2.2 11) (σ.1 3)
          refine zg_aload_n X dX7_openCampaign_58 rfl ?_
          refine rg_M_isOpen X f7 l175 dX7_openCampaign_59 ?_
          refine zg_if_ne X dX7_openCampaign_62 (tgt := 69) (by decide) (fun c_62 => ?_) (fun c_62 => ?_)
          · skip
            refine zg_aload_n X dX7_openCampaign_69 rfl ?_
            refine zg_iconst X (v := 2) dX7_openCampaign_70 (by decide) ?_
            refine zg_callVi X (k_X7_fails l D ad T (uN σ 8 0) 2) zFr.rf gX7_openCampaign_X7_fails rfl rfl rfl qv_X7_fails rfl ⟨Nat.le_of_ble_eq_true rfl, Nat.le_of_ble_eq_true rfl⟩ (q0 := 0) (ci := 9) rfl rfl rfl (Nat.le_of_ble_eq_true rfl) ⟨Nat.le_of_ble_eq_true rfl, Nat.le_of_ble_eq_true rfl⟩ dX7_openCampaign_71 (fun r w1 hz9 => ?_)
            obtain ⟨rfl, rfl⟩ := hz9
            exact zg_iret X hr dX7_openCampaign_74 (Nat.le_of_ble_eq_true rfl) (Nat.le_of_ble_eq_true rfl) (⟨uN (uN σ 8 0) 8 2, mR_f 1 (by rw [sp_openCampaign, if_pos hd, if_pos (Or.inl (bI_nz (by rw [← hO]; exact c_62)))]) rfl rfl, rfl⟩)
          · skip
            refine zg_iload_n X dX7_openCampaign_65 rfl ?_
            refine zg_ifn_ne X dX7_openCampaign_66 (tgt := 75) (by decide) (by omega) (fun c_66 => ?_) (fun c_66 => ?_)
            · skip
              have hop : ¬ 0 < σ.1 6 := bI_z (hO.symm.trans c_62)
              have hst : hasSt σ 97 := hasSt_1 (by rw [← hc1]; omega)
              refine zg_aload_n X dX7_openCampaign_75 rfl ?_
              refine zg_iconst X (v := 0) dX7_openCampaign_76 (by decide) ?_
              refine rp_M_items X (v := 0) f7 l179 dX7_openCampaign_77 ?_
              refine zg_iconst X (v := 0) dX7_openCampaign_80 (by decide) ?_
              refine zg_istore_n X dX7_openCampaign_81 (by decide) ?_
              have LP82 : ∀ (fu : Nat) (i2 : Nat) (s1 : ZS), σ.1 3 + 1 ≤ i2 + fu → i2 ≤ σ.1 3 → s1 = fN (opnF σ) (uC (uC (uN σ 3 (σ.2.1 0 + x)) 4 0) 6 0) i2 → s1.1 3 = σ.1 3 → s1.2.2 11 = σ.2.2 11 → s1.2.1 0 = σ.2.1 0 → s1.2.1 3 = σ.2.1 0 + x → s1.1 4 ≤ i2 → zG p l e (headSpec wsX7_openCampaign ({ frames := 1, cells := 0, slots := 0, locals := 22 })).room s m [.ref (ad 0), .int x].toArray below meth c D 4 A 0 0 (MQ below (qI D (zT T) (fun v0 w => ∃ t, mR [eIA, eIS] σ (sp_openCampaign σ x) v0 t ∧ w = wM ad T t) A) [.ref (ad 0), .int x].toArray s 0 0 A) (wM ad T (uN (uN s1 8 0) 3 (σ.2.1 3))) 82 [(0, .ref (ad 0)), (1, .int x), (3, .int (nI i2))] [] := by
                intro fu
                induction fu with
                | zero => intro i2 s1 hfu hii2 _ _ _ _ _ _; exact absurd hfu (by omega)
                | succ fu ih82 =>
                  intro i2 s1 hfu hii2 hs1 h3 h11 h0 h33 h4
                  refine zg_iload_n X dX7_openCampaign_82 rfl ?_
                  refine zg_aload_n X dX7_openCampaign_83 rfl ?_
                  refine rg_M_grants X f7 l105 dX7_openCampaign_84 ?_
                  refine zg_top (congrArg nI h3) ?_
                  refine zg_icmpn_ge X dX7_openCampaign_87 (tgt := 141) (by decide) (a := i2) (b := σ.1 3) (by omega) (by omega) (fun c_87 => ?_) (fun c_87 => ?_)
                  · skip
                    refine zg_aload_n X dX7_openCampaign_141 rfl ?_
                    refine zg_iconst X (v := 1) dX7_openCampaign_142 (by decide) ?_
                    refine rp_M_isOpen X f7 l175 rfl rfl dX7_openCampaign_143 ?_
                    refine zg_aload_n X dX7_openCampaign_146 rfl ?_
                    refine zg_aload_n X dX7_openCampaign_147 rfl ?_
                    refine rg_M_day X f7 l134 dX7_openCampaign_148 ?_
                    refine zg_iload_n X dX7_openCampaign_151 rfl ?_
                    refine zg_iadd X dX7_openCampaign_152 ?_
                    refine zg_top (v' := s1.2.1 3) (show s1.2.1 0 + x = s1.2.1 3 by rw [h0, h33]) ?_
                    refine rp_M_deadline X f7 l182 dX7_openCampaign_153 ?_
                    refine zg_aload_n X dX7_openCampaign_156 rfl ?_
                    refine rg_M_items X f7 l179 dX7_openCampaign_157 ?_
                    exact zg_iret X hr dX7_openCampaign_160 (Nat.le_of_ble_eq_true rfl) (Nat.le_of_ble_eq_true rfl) (⟨uN (uN s1 7 1) 8 0, mR_r (by rw [sp_openCampaign, if_pos hd, if_neg (fun q => q.elim hop (fun z => z hst)), opnI, show σ.1 3 = i2 by omega, ← hs1] <;> rfl), rfl⟩)
                  · skip
                    refine zg_aload_n X dX7_openCampaign_90 rfl ?_
                    refine rg_M_states X f7 l56 dX7_openCampaign_91 ?_
                    refine zg_iload_n X dX7_openCampaign_94 rfl ?_
                    refine rlM_states X (by omega) dX7_openCampaign_95 ?_
                    refine zg_bipush X (v := 97) dX7_openCampaign_96 (by decide) ?_
                    refine zg_icmp_eq X dX7_openCampaign_98 (tgt := 104) (by decide) (fun c_98 => ?_) (fun c_98 => ?_)
                    · skip
                      refine zg_aload_n X dX7_openCampaign_104 rfl ?_
                      refine rg_M_itemGrants X f7 l73 dX7_openCampaign_105 ?_
                      refine zg_aload_n X dX7_openCampaign_108 rfl ?_
                      refine rg_M_items X f7 l179 dX7_openCampaign_109 ?_
                      refine zg_iload_n X dX7_openCampaign_112 rfl ?_
                      refine rsM_itemGrants X (show s1.1 4 < 24 by omega) dX7_openCampaign_113 ?_
                      refine zg_aload_n X dX7_openCampaign_114 rfl ?_
                      refine rg_M_verdicts X f7 l79 dX7_openCampaign_115 ?_
                      refine zg_aload_n X dX7_openCampaign_118 rfl ?_
                      refine rg_M_items X f7 l179 dX7_openCampaign_119 ?_
                      refine zg_bipush X (v := 117) dX7_openCampaign_122 (by decide) ?_
                      refine rsM_verdicts X (show s1.1 4 < 24 by omega) rfl dX7_openCampaign_124 ?_
                      refine zg_aload_n X dX7_openCampaign_125 rfl ?_
                      refine zg_dup X dX7_openCampaign_126 rfl ?_
                      refine rg_M_items X f7 l179 dX7_openCampaign_127 ?_
                      refine zg_iconst X (v := 1) dX7_openCampaign_130 (by decide) ?_
                      refine zg_iadd X dX7_openCampaign_131 ?_
                      refine zg_top (nI_1 _) ?_
                      refine rp_M_items X f7 l179 dX7_openCampaign_132 ?_
                      refine zg_iinc1 X dX7_openCampaign_135 (by decide) rfl ?_
                      refine zg_goto X dX7_openCampaign_138 (tgt := 82) (by decide) ?_
                      refine zg_w (w' := wM ad T (uN (uN (addIt s1 (nI i2)) 8 0) 3 (σ.2.1 3))) rfl ?_
                      exact zg_lv (by exact ⟨rfl, rfl, rfl, trivial⟩) (ih82 (i2 + 1) (addIt s1 (nI i2)) (by omega) (by omega) (by rw [fN, ← hs1, opnF, if_pos (by rw [← h11]; exact c_98)]) h3 h11 h0 h33 (Nat.succ_le_succ h4))
                    · skip
                      refine zg_goto X dX7_openCampaign_101 (tgt := 135) (by decide) ?_
                      refine zg_iinc1 X dX7_openCampaign_135 (by decide) rfl ?_
                      refine zg_goto X dX7_openCampaign_138 (tgt := 82) (by decide) ?_
                      skip
                      exact zg_lv (by exact ⟨rfl, rfl, rfl, trivial⟩) (ih82 (i2 + 1) s1 (by omega) (by omega) (by rw [fN, ← hs1, opnF, if_neg (by rw [← h11]; exact c_98)]) h3 h11 h0 h33 (Nat.le_succ_of_le h4))
              refine zg_w (w' := wM ad T (uN (uN (uC (uC (uN σ 3 (σ.2.1 0 + x)) 4 0) 6 0) 8 0) 3 (σ.2.1 3))) rfl ?_
              exact zg_lv (by exact ⟨rfl, rfl, rfl, trivial⟩) (LP82 (σ.1 3 + 1) 0 (uC (uC (uN σ 3 (σ.2.1 0 + x)) 4 0) 6 0) (by omega) (by omega) rfl rfl rfl rfl rfl (Nat.le_refl 0))
            · skip
              refine zg_aload_n X dX7_openCampaign_69 rfl ?_
              refine zg_iconst X (v := 2) dX7_openCampaign_70 (by decide) ?_
              refine zg_callVi X (k_X7_fails l D ad T (uN σ 8 0) 2) zFr.rf gX7_openCampaign_X7_fails rfl rfl rfl qv_X7_fails rfl ⟨Nat.le_of_ble_eq_true rfl, Nat.le_of_ble_eq_true rfl⟩ (q0 := 0) (ci := 9) rfl rfl rfl (Nat.le_of_ble_eq_true rfl) ⟨Nat.le_of_ble_eq_true rfl, Nat.le_of_ble_eq_true rfl⟩ dX7_openCampaign_71 (fun r w1 hz9 => ?_)
              obtain ⟨rfl, rfl⟩ := hz9
              exact zg_iret X hr dX7_openCampaign_74 (Nat.le_of_ble_eq_true rfl) (Nat.le_of_ble_eq_true rfl) (⟨uN (uN σ 8 0) 8 2, mR_f 1 (by rw [sp_openCampaign, if_pos hd, if_pos (Or.inr (hasSt_0 (show cnA (σ.2.2 11) (σ.1 3) = 0 by omega)))]) rfl rfl, rfl⟩)
        · skip
          refine zg_iload_n X dX7_openCampaign_33 rfl ?_
          refine zg_aload_n X dX7_openCampaign_34 rfl ?_
          refine rg_M_states X f7 l56 dX7_openCampaign_35 ?_
          refine zg_iload_n X dX7_openCampaign_38 rfl ?_
          refine rlM_states X (by omega) dX7_openCampaign_39 ?_
          refine zg_bipush X (v := 97) dX7_openCampaign_40 (by decide) ?_
          refine zg_icmp_ne X dX7_openCampaign_42 (tgt := 49) (by decide) (fun c_42 => ?_) (fun c_42 => ?_)
          · skip
            refine zg_iconst X (v := 0) dX7_openCampaign_49 (by decide) ?_
            refine zg_iadd X dX7_openCampaign_50 ?_
            refine zg_top (i32_add0 _) ?_
            refine zg_istore_n X dX7_openCampaign_51 (by decide) ?_
            refine zg_iinc1 X dX7_openCampaign_52 (by decide) rfl ?_
            refine zg_goto X dX7_openCampaign_55 (tgt := 25) (by decide) ?_
            exact zg_lv (by exact ⟨rfl, rfl, rfl, rfl, trivial⟩) (ih25 (i + 1) c0 (by omega) (by omega) (by rw [hc0]; exact (if_neg c_42).symm))
          · skip
            refine zg_iconst X (v := 1) dX7_openCampaign_45 (by decide) ?_
            refine zg_goto X dX7_openCampaign_46 (tgt := 50) (by decide) ?_
            refine zg_iadd X dX7_openCampaign_50 ?_
            refine zg_top (nI_1 _) ?_
            skip
            refine zg_istore_n X dX7_openCampaign_51 (by decide) ?_
            refine zg_iinc1 X dX7_openCampaign_52 (by decide) rfl ?_
            refine zg_goto X dX7_openCampaign_55 (tgt := 25) (by decide) ?_
            exact zg_lv (by exact ⟨rfl, rfl, rfl, rfl, trivial⟩) (ih25 (i + 1) (c0 + 1) (by omega) (by omega) (by rw [hc0]; exact (if_pos c_42).symm))
    exact zg_lv (by exact ⟨rfl, rfl, rfl, rfl, trivial⟩) (LP25 (σ.1 3 + 1) 0 0 (by omega) (by omega) rfl)
  · skip
    refine zg_aload_n X dX7_openCampaign_15 rfl ?_
    refine zg_iconst X (v := 1) dX7_openCampaign_16 (by decide) ?_
    refine zg_callVi X (k_X7_fails l D ad T (uN σ 8 0) 1) zFr.rf gX7_openCampaign_X7_fails rfl rfl rfl qv_X7_fails rfl ⟨Nat.le_of_ble_eq_true rfl, Nat.le_of_ble_eq_true rfl⟩ (q0 := 0) (ci := 9) rfl rfl rfl (Nat.le_of_ble_eq_true rfl) ⟨Nat.le_of_ble_eq_true rfl, Nat.le_of_ble_eq_true rfl⟩ dX7_openCampaign_17 (fun r w1 hz9 => ?_)
    obtain ⟨rfl, rfl⟩ := hz9
    exact zg_iret X hr dX7_openCampaign_20 (Nat.le_of_ble_eq_true rfl) (Nat.le_of_ble_eq_true rfl) (⟨uN (uN σ 8 0) 8 1, mR_f 0 (by rw [sp_openCampaign, if_neg c_12]) rfl rfl, rfl⟩)
