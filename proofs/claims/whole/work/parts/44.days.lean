/-! rows of methods, laid by a program of mine (wip/whole/walk.py) out of the bytecode and annotations -/
theorem qd_X6_answer : yX6_answer.cls ≠ "java/lang/invoke/MethodHandle" ∧ yX6_answer.cls ≠ "java/lang/invoke/VarHandle" ∧ (parseMethodDescriptor yX6_answer.desc).map (fun d => d.parameters.length) = some 3 := by decide +kernel
theorem qv_X6_answer : yX6_answer.cls = RX6 ∧ yX6_answer.cls ≠ "java/lang/invoke/MethodHandle" ∧ yX6_answer.cls ≠ "java/lang/invoke/VarHandle" ∧ (parseMethodDescriptor yX6_answer.desc).map (fun d => d.parameters.length) = some 3 := ⟨rfl, qd_X6_answer⟩
theorem qd_X6_decide : yX6_decide.cls ≠ "java/lang/invoke/MethodHandle" ∧ yX6_decide.cls ≠ "java/lang/invoke/VarHandle" ∧ (parseMethodDescriptor yX6_decide.desc).map (fun d => d.parameters.length) = some 3 := by decide +kernel
theorem qv_X6_decide : yX6_decide.cls = RX6 ∧ yX6_decide.cls ≠ "java/lang/invoke/MethodHandle" ∧ yX6_decide.cls ≠ "java/lang/invoke/VarHandle" ∧ (parseMethodDescriptor yX6_decide.desc).map (fun d => d.parameters.length) = some 3 := ⟨rfl, qd_X6_decide⟩
theorem qd_X6_decideBySilence : yX6_decideBySilence.cls ≠ "java/lang/invoke/MethodHandle" ∧ yX6_decideBySilence.cls ≠ "java/lang/invoke/VarHandle" ∧ (parseMethodDescriptor yX6_decideBySilence.desc).map (fun d => d.parameters.length) = some 0 := by decide +kernel
theorem qv_X6_decideBySilence : yX6_decideBySilence.cls = RX6 ∧ yX6_decideBySilence.cls ≠ "java/lang/invoke/MethodHandle" ∧ yX6_decideBySilence.cls ≠ "java/lang/invoke/VarHandle" ∧ (parseMethodDescriptor yX6_decideBySilence.desc).map (fun d => d.parameters.length) = some 0 := ⟨rfl, qd_X6_decideBySilence⟩
theorem qd_X6_end : yX6_end.cls ≠ "java/lang/invoke/MethodHandle" ∧ yX6_end.cls ≠ "java/lang/invoke/VarHandle" ∧ (parseMethodDescriptor yX6_end.desc).map (fun d => d.parameters.length) = some 1 := by decide +kernel
theorem qv_X6_end : yX6_end.cls = RX6 ∧ yX6_end.cls ≠ "java/lang/invoke/MethodHandle" ∧ yX6_end.cls ≠ "java/lang/invoke/VarHandle" ∧ (parseMethodDescriptor yX6_end.desc).map (fun d => d.parameters.length) = some 1 := ⟨rfl, qd_X6_end⟩
theorem qd_X6_endDueGrants : yX6_endDueGrants.cls ≠ "java/lang/invoke/MethodHandle" ∧ yX6_endDueGrants.cls ≠ "java/lang/invoke/VarHandle" ∧ (parseMethodDescriptor yX6_endDueGrants.desc).map (fun d => d.parameters.length) = some 0 := by decide +kernel
theorem qv_X6_endDueGrants : yX6_endDueGrants.cls = RX6 ∧ yX6_endDueGrants.cls ≠ "java/lang/invoke/MethodHandle" ∧ yX6_endDueGrants.cls ≠ "java/lang/invoke/VarHandle" ∧ (parseMethodDescriptor yX6_endDueGrants.desc).map (fun d => d.parameters.length) = some 0 := ⟨rfl, qd_X6_endDueGrants⟩
theorem qd_X6_pass : yX6_pass.cls ≠ "java/lang/invoke/MethodHandle" ∧ yX6_pass.cls ≠ "java/lang/invoke/VarHandle" ∧ (parseMethodDescriptor yX6_pass.desc).map (fun d => d.parameters.length) = some 1 := by decide +kernel
theorem qv_X6_pass : yX6_pass.cls = RX6 ∧ yX6_pass.cls ≠ "java/lang/invoke/MethodHandle" ∧ yX6_pass.cls ≠ "java/lang/invoke/VarHandle" ∧ (parseMethodDescriptor yX6_pass.desc).map (fun d => d.parameters.length) = some 1 := ⟨rfl, qd_X6_pass⟩
theorem zi_lt0 {x : Int32} (h : x < 0) : x < 1 := by
  rw [Int32.lt_iff_toInt_lt] at h ⊢
  have h0 : (0 : Int32).toInt = 0 := by decide
  have h1 : (1 : Int32).toInt = 1 := by decide
  omega
set_option maxHeartbeats 4000000 in
set_option maxRecDepth 100000 in
theorem k_X6_decide (l : Launch) (D : va_G) (ad : Nat → Nat) (T : Nat → ClassId) (σ : ZS) (hI : zI σ) (i0 : Nat) (vd dc : Int32) (hi0 : i0 < σ.1 4) (hu : 0 < σ.1 6) (hvd : vp_nar .char vd = vd) : zM l yX6_decide wsX6_decide ({ frames := 2, cells := 0, slots := 0, locals := 48 }) D (zT T) [.ref (ad 0), .int (nI i0), .int vd, .int dc] (wC ad T σ) 0 0 (qV D (zT T) (fun w => w = wC ad T (decI σ i0 vd dc))) := by
  have hB0 := hI.bd
  obtain ⟨b0, b1, b2, b3, b4, b5⟩ := hI.bd
  refine zg_of (cc := cX6_decide) (maxL := 5) (ret := none) (by decide) rfl (Nat.le_of_ble_eq_true rfl) (fun p e s m below meth c A hin hr X => ?_)
  have X : zC p s m _ meth c cX6_decide 5 wsX6_decide RX6 D (zT T) A := X
  have f6 : ∀ w ∈ u_ws RX6 TX6 9, w ∈ wsX6_decide := by decide +kernel
  have f0 : ∀ w ∈ u_ws RX0 TX0 8, w ∈ wsX6_decide := by decide +kernel
  have f2 : ∀ w ∈ u_ws RX2 TX2 7, w ∈ wsX6_decide := by decide +kernel
  have l186 : Cond.fieldLink RX6 186 "Recertify$Grants" "states" "[C" ∈ wsX6_decide := by decide +kernel
  have l192 : Cond.fieldLink RX6 192 "Recertify$Grants" "dueDays" "[I" ∈ wsX6_decide := by decide +kernel
  have l284 : Cond.fieldLink RX6 284 "Recertify$Campaign" "grants" "[I" ∈ wsX6_decide := by decide +kernel
  have l33 : Cond.fieldLink RX6 33 "Recertify" "grants" "LRecertify$Grants;" ∈ wsX6_decide := by decide +kernel
  have l40 : Cond.fieldLink RX6 40 "Recertify" "campaign" "LRecertify$Campaign;" ∈ wsX6_decide := by decide +kernel
  have l47 : Cond.fieldLink RX6 47 "Recertify" "evidence" "LRecertify$Evidence;" ∈ wsX6_decide := by decide +kernel
  have l51 : Cond.fieldLink RX6 51 "Recertify" "day" "I" ∈ wsX6_decide := by decide +kernel
  have l58 : Cond.fieldLink RX6 58 "Recertify" "grace" "I" ∈ wsX6_decide := by decide +kernel
  refine zg_aload_n X dX6_decide_0 rfl ?_
  refine rg_R_campaign X f6 l40 dX6_decide_1 ?_
  refine rg_Campaign_grants X f0 l284 dX6_decide_4 ?_
  refine zg_iload_n X dX6_decide_7 rfl ?_
  refine rlC_itemGrants X (by omega) dX6_decide_8 ?_
  obtain ⟨g0, hg0, eg⟩ := hI.itm i0 hi0
  refine zg_top eg ?_
  refine zg_istore X dX6_decide_9 (by decide) ?_
  refine zg_aload_n X dX6_decide_11 rfl ?_
  refine rg_R_campaign X f6 l40 dX6_decide_12 ?_
  refine zg_iload_n X dX6_decide_15 rfl ?_
  refine zg_iload_n X dX6_decide_16 rfl ?_
  refine zg_iload_n X dX6_decide_17 rfl ?_
  refine zg_callVv X (k_X0_settle l D ad T _ i0 vd dc (by omega) hu hvd) zFr.rf gX6_decide_X0_settle rfl rfl rfl qv_X0_settle rfl ⟨Nat.le_of_ble_eq_true rfl, Nat.le_of_ble_eq_true rfl⟩ (q0 := 5) (ci := 2) rfl rfl rfl (Nat.le_of_ble_eq_true rfl) ⟨Nat.le_of_ble_eq_true rfl, Nat.le_of_ble_eq_true rfl⟩ dX6_decide_18 (fun w1 hz9 => ?_)
  obtain rfl := hz9
  refine zg_aload_n X dX6_decide_21 rfl ?_
  refine rg_R_evidence X f6 l47 dX6_decide_22 ?_
  refine zg_iload_n X dX6_decide_25 rfl ?_
  refine zg_iload X dX6_decide_26 rfl ?_
  refine zg_aload_n X dX6_decide_28 rfl ?_
  refine rg_R_day X f6 l51 dX6_decide_29 ?_
  refine zg_callVv X (k_X1_add l D ad T _ (zI_settle hI).bd vd _ _ hvd) zFr.rf gX6_decide_X1_add rfl rfl rfl qv_X1_add rfl ⟨Nat.le_of_ble_eq_true rfl, Nat.le_of_ble_eq_true rfl⟩ (q0 := 6) (ci := 3) rfl rfl rfl (Nat.le_of_ble_eq_true rfl) ⟨Nat.le_of_ble_eq_true rfl, Nat.le_of_ble_eq_true rfl⟩ dX6_decide_32 (fun w1 hz9 => ?_)
  obtain rfl := hz9
  refine zg_iload_n X dX6_decide_35 rfl ?_
  refine zg_bipush X (v := 114) dX6_decide_36 (by decide) ?_
  refine zg_icmp_ne X dX6_decide_38 (tgt := 72) (by decide) (fun c_38 => ?_) (fun c_38 => ?_)
  · skip
    exact zg_vret X hr dX6_decide_72 (Nat.le_of_ble_eq_true rfl) (Nat.le_of_ble_eq_true rfl) (by rw [decI_k eg c_38])
  · skip
    refine zg_aload_n X dX6_decide_41 rfl ?_
    refine rg_R_grants X f6 l33 dX6_decide_42 ?_
    refine rg_Grants_states X f2 l186 dX6_decide_45 ?_
    refine zg_iload X dX6_decide_48 rfl ?_
    refine zg_bipush X (v := 119) dX6_decide_50 (by decide) ?_
    refine rsC_states X (by omega) rfl dX6_decide_52 ?_
    refine zg_aload_n X dX6_decide_53 rfl ?_
    refine rg_R_grants X f6 l33 dX6_decide_54 ?_
    refine rg_Grants_dueDays X f2 l192 dX6_decide_57 ?_
    refine zg_iload X dX6_decide_60 rfl ?_
    refine zg_aload_n X dX6_decide_62 rfl ?_
    refine rg_R_day X f6 l51 dX6_decide_63 ?_
    refine zg_aload_n X dX6_decide_66 rfl ?_
    refine rg_R_grace X f6 l58 dX6_decide_67 ?_
    refine zg_iadd X dX6_decide_70 ?_
    refine rsC_due X (by omega) dX6_decide_71 ?_
    exact zg_vret X hr dX6_decide_72 (Nat.le_of_ble_eq_true rfl) (Nat.le_of_ble_eq_true rfl) (by rw [decI_r eg (by omega) c_38 _ rfl]; rfl)

set_option maxHeartbeats 4000000 in
set_option maxRecDepth 100000 in
theorem k_X6_end (l : Launch) (D : va_G) (ad : Nat → Nat) (T : Nat → ClassId) (σ : ZS) (hI : zI σ) (g : Nat) (hg : g < σ.1 3) : zM l yX6_end wsX6_end ({ frames := 2, cells := 0, slots := 0, locals := 48 }) D (zT T) [.ref (ad 0), .int (nI g)] (wC ad T σ) 0 0 (qV D (zT T) (fun w => w = wC ad T (endI σ g))) := by
  have hB0 := hI.bd
  obtain ⟨b0, b1, b2, b3, b4, b5⟩ := hI.bd
  refine zg_of (cc := cX6_end) (maxL := 3) (ret := none) (by decide) rfl (Nat.le_of_ble_eq_true rfl) (fun p e s m below meth c A hin hr X => ?_)
  have X : zC p s m _ meth c cX6_end 3 wsX6_end RX6 D (zT T) A := X
  have f6 : ∀ w ∈ u_ws RX6 TX6 9, w ∈ wsX6_end := by decide +kernel
  have f2 : ∀ w ∈ u_ws RX2 TX2 7, w ∈ wsX6_end := by decide +kernel
  have f5 : ∀ w ∈ u_ws RX5 TX5 5, w ∈ wsX6_end := by decide +kernel
  have l162 : Cond.fieldLink RX6 162 "Recertify$Rights" "denied" "[I" ∈ wsX6_end := by decide +kernel
  have l186 : Cond.fieldLink RX6 186 "Recertify$Grants" "states" "[C" ∈ wsX6_end := by decide +kernel
  have l26 : Cond.fieldLink RX6 26 "Recertify" "rights" "LRecertify$Rights;" ∈ wsX6_end := by decide +kernel
  have l33 : Cond.fieldLink RX6 33 "Recertify" "grants" "LRecertify$Grants;" ∈ wsX6_end := by decide +kernel
  have l353 : Cond.fieldLink RX6 353 "Recertify$Grants" "people" "[I" ∈ wsX6_end := by decide +kernel
  have l372 : Cond.fieldLink RX6 372 "Recertify$Grants" "rights" "[I" ∈ wsX6_end := by decide +kernel
  have l47 : Cond.fieldLink RX6 47 "Recertify" "evidence" "LRecertify$Evidence;" ∈ wsX6_end := by decide +kernel
  have l51 : Cond.fieldLink RX6 51 "Recertify" "day" "I" ∈ wsX6_end := by decide +kernel
  refine zg_aload_n X dX6_end_0 rfl ?_
  refine rg_R_grants X f6 l33 dX6_end_1 ?_
  refine rg_Grants_people X f2 l353 dX6_end_4 ?_
  refine zg_iload_n X dX6_end_7 rfl ?_
  refine rlC_gPeople X (by omega) dX6_end_8 ?_
  refine zg_istore_n X dX6_end_9 (by decide) ?_
  refine zg_aload_n X dX6_end_10 rfl ?_
  refine rg_R_grants X f6 l33 dX6_end_11 ?_
  refine rg_Grants_states X f2 l186 dX6_end_14 ?_
  refine zg_iload_n X dX6_end_17 rfl ?_
  refine zg_bipush X (v := 120) dX6_end_18 (by decide) ?_
  refine rsC_states X (by omega) rfl dX6_end_20 ?_
  refine zg_iload_n X dX6_end_21 rfl ?_
  refine zg_iconst X (v := (-1)) dX6_end_22 (by decide) ?_
  refine zg_icmp_eq X dX6_end_23 (tgt := 50) (by decide) (fun c_23 => ?_) (fun c_23 => ?_)
  · skip
    refine zg_aload_n X dX6_end_50 rfl ?_
    refine rg_R_evidence X f6 l47 dX6_end_51 ?_
    refine zg_bipush X (v := 120) dX6_end_54 (by decide) ?_
    refine zg_iload_n X dX6_end_56 rfl ?_
    refine zg_aload_n X dX6_end_57 rfl ?_
    refine rg_R_day X f6 l51 dX6_end_58 ?_
    refine zg_callVv X (k_X1_add l D ad T (uA σ 11 (upd (σ.2.2 11) g 120)) hB0 120 _ _ rfl) zFr.rf gX6_end_X1_add rfl rfl rfl qv_X1_add rfl ⟨Nat.le_of_ble_eq_true rfl, Nat.le_of_ble_eq_true rfl⟩ (q0 := 6) (ci := 3) rfl rfl rfl (Nat.le_of_ble_eq_true rfl) ⟨Nat.le_of_ble_eq_true rfl, Nat.le_of_ble_eq_true rfl⟩ dX6_end_61 (fun w1 hz9 => ?_)
    obtain rfl := hz9
    exact zg_vret X hr dX6_end_64 (Nat.le_of_ble_eq_true rfl) (Nat.le_of_ble_eq_true rfl) (by rw [endI, if_pos c_23]; rfl)
  · skip
    refine zg_aload_n X dX6_end_26 rfl ?_
    refine rg_R_rights X f6 l26 dX6_end_27 ?_
    refine rg_Rights_denied X f5 l162 dX6_end_30 ?_
    refine zg_aload_n X dX6_end_33 rfl ?_
    refine rg_R_grants X f6 l33 dX6_end_34 ?_
    refine rg_Grants_rights X f2 l372 dX6_end_37 ?_
    refine zg_iload_n X dX6_end_40 rfl ?_
    refine rlC_gRight X (by omega) dX6_end_41 ?_
    obtain ⟨r0, hr0, er⟩ := hI.gRt g hg
    obtain ⟨j, hj, ej⟩ := hI.per g hg c_23
    refine zg_top (show _ = nI r0 from er) ?_
    refine zg_dup2 X dX6_end_42 rfl rfl ?_
    refine rlC_denied X (by omega) dX6_end_43 ?_
    refine zg_iload_n X dX6_end_44 rfl ?_
    refine zg_top ej ?_
    refine zg_callSi X (k_X6_bit l D ad T _ j) zFr.rf gX6_end_X6_bit rfl rfl rfl qd_X6_bit rfl ⟨Nat.le_of_ble_eq_true rfl, Nat.le_of_ble_eq_true rfl⟩ rfl (Nat.le_of_ble_eq_true rfl) ⟨Nat.le_of_ble_eq_true rfl, Nat.le_of_ble_eq_true rfl⟩ dX6_end_45 (fun r w1 hz9 => ?_)
    obtain ⟨rfl, rfl⟩ := hz9
    refine zg_ior X dX6_end_48 ?_
    refine rsC_denied X (by omega) dX6_end_49 ?_
    refine zg_aload_n X dX6_end_50 rfl ?_
    refine rg_R_evidence X f6 l47 dX6_end_51 ?_
    refine zg_bipush X (v := 120) dX6_end_54 (by decide) ?_
    refine zg_iload_n X dX6_end_56 rfl ?_
    refine zg_aload_n X dX6_end_57 rfl ?_
    refine rg_R_day X f6 l51 dX6_end_58 ?_
    refine zg_callVv X (k_X1_add l D ad T (uA (uA σ 11 (upd (σ.2.2 11) g 120)) 8 (upd (σ.2.2 8) r0 (σ.2.2 8 r0 ||| bt1 j))) hB0 120 _ _ rfl) zFr.rf gX6_end_X1_add rfl rfl rfl qv_X1_add rfl ⟨Nat.le_of_ble_eq_true rfl, Nat.le_of_ble_eq_true rfl⟩ (q0 := 6) (ci := 3) rfl rfl rfl (Nat.le_of_ble_eq_true rfl) ⟨Nat.le_of_ble_eq_true rfl, Nat.le_of_ble_eq_true rfl⟩ dX6_end_61 (fun w1 hz9 => ?_)
    obtain rfl := hz9
    exact zg_vret X hr dX6_end_64 (Nat.le_of_ble_eq_true rfl) (Nat.le_of_ble_eq_true rfl) (by rw [endI, if_neg c_23, er, ej, ix_nI (by omega), ix_nI (by omega)]; rfl)

set_option maxHeartbeats 4000000 in
set_option maxRecDepth 100000 in
theorem k_X6_endDueGrants (l : Launch) (D : va_G) (ad : Nat → Nat) (T : Nat → ClassId) (σ : ZS) (hI : zI σ)  : zM l yX6_endDueGrants wsX6_endDueGrants ({ frames := 5, cells := 0, slots := 0, locals := 112 }) D (zT T) [.ref (ad 0)] (wC ad T σ) 0 0 (qV D (zT T) (fun w => w = wC ad T (edgI σ))) := by
  have hB0 := hI.bd
  obtain ⟨b0, b1, b2, b3, b4, b5⟩ := hI.bd
  refine zg_of (cc := cX6_endDueGrants) (maxL := 4) (ret := none) (by decide) rfl (Nat.le_of_ble_eq_true rfl) (fun p e s m below meth c A hin hr X => ?_)
  have X : zC p s m _ meth c cX6_endDueGrants 4 wsX6_endDueGrants RX6 D (zT T) A := X
  have f6 : ∀ w ∈ u_ws RX6 TX6 9, w ∈ wsX6_endDueGrants := by decide +kernel
  have f2 : ∀ w ∈ u_ws RX2 TX2 7, w ∈ wsX6_endDueGrants := by decide +kernel
  have l173 : Cond.fieldLink RX6 173 "Recertify$Grants" "count" "I" ∈ wsX6_endDueGrants := by decide +kernel
  have l33 : Cond.fieldLink RX6 33 "Recertify" "grants" "LRecertify$Grants;" ∈ wsX6_endDueGrants := by decide +kernel
  have l51 : Cond.fieldLink RX6 51 "Recertify" "day" "I" ∈ wsX6_endDueGrants := by decide +kernel
  refine zg_iconst X (v := 0) dX6_endDueGrants_0 (by decide) ?_
  refine zg_istore_n X dX6_endDueGrants_1 (by decide) ?_
  refine zg_iconst X (v := 0) dX6_endDueGrants_2 (by decide) ?_
  refine zg_istore_n X dX6_endDueGrants_3 (by decide) ?_
  have LP4 : ∀ (fu : Nat) (i : Nat) (sn : Int32) (s1 : ZS), σ.1 3 + 1 ≤ i + fu → i ≤ σ.1 3 → edg (σ.1 3 - i) sn s1 = edgI σ → zI s1 → s1.1 3 = σ.1 3 → zG p l e (headSpec wsX6_endDueGrants ({ frames := 5, cells := 0, slots := 0, locals := 112 })).room s m [.ref (ad 0)].toArray below meth c D 4 A 0 0 (MQ below (qV D (zT T) (fun w => w = wC ad T (edgI σ)) A) [.ref (ad 0)].toArray s 0 0 A) (wC ad T s1) 4 [(0, .ref (ad 0)), (1, .int sn), (2, .int (nI i))] [] := by
    intro fu
    induction fu with
    | zero => intro i sn s1 hfu hii _ _ _; exact absurd hfu (by omega)
    | succ fu ih4 =>
      intro i sn s1 hfu hii hb hI1 h3
      refine zg_iload_n X dX6_endDueGrants_4 rfl ?_
      refine zg_aload_n X dX6_endDueGrants_5 rfl ?_
      refine rg_R_grants X f6 l33 dX6_endDueGrants_6 ?_
      refine rg_Grants_count X f2 l173 dX6_endDueGrants_9 ?_
      refine zg_top (congrArg nI h3) ?_
      refine zg_icmpn_ge X dX6_endDueGrants_12 (tgt := 60) (by decide) (a := i) (b := σ.1 3) (by omega) (by omega) (fun c_12 => ?_) (fun c_12 => ?_)
      · skip
        exact zg_vret X hr dX6_endDueGrants_60 (Nat.le_of_ble_eq_true rfl) (Nat.le_of_ble_eq_true rfl) (by rw [← hb, show σ.1 3 - i = 0 by omega, edg])
      · skip
        obtain ⟨k, hk⟩ : ∃ k, σ.1 3 - i = k + 1 := ⟨σ.1 3 - i - 1, by omega⟩
        refine zg_aload_n X dX6_endDueGrants_15 rfl ?_
        refine rg_R_grants X f6 l33 dX6_endDueGrants_16 ?_
        refine zg_aload_n X dX6_endDueGrants_19 rfl ?_
        refine rg_R_day X f6 l51 dX6_endDueGrants_20 ?_
        refine zg_iload_n X dX6_endDueGrants_23 rfl ?_
        refine zg_callVi X (k_X2_findFirstDue l D ad T _ hI1.bd _ _) zFr.rf gX6_endDueGrants_X2_findFirstDue rfl rfl rfl qv_X2_findFirstDue rfl ⟨Nat.le_of_ble_eq_true rfl, Nat.le_of_ble_eq_true rfl⟩ (q0 := 4) (ci := 4) rfl rfl rfl (Nat.le_of_ble_eq_true rfl) ⟨Nat.le_of_ble_eq_true rfl, Nat.le_of_ble_eq_true rfl⟩ dX6_endDueGrants_24 (fun r w1 hz9 => ?_)
        obtain ⟨rfl, rfl⟩ := hz9
        refine zg_istore_n X dX6_endDueGrants_27 (by decide) ?_
        refine zg_iload_n X dX6_endDueGrants_28 rfl ?_
        refine zg_iconst X (v := (-1)) dX6_endDueGrants_29 (by decide) ?_
        refine zg_icmp_ne X dX6_endDueGrants_30 (tgt := 34) (by decide) (fun c_30 => ?_) (fun c_30 => ?_)
        · skip
          obtain ⟨g, hg, eg, -⟩ := firstDue_idx c_30
          rw [eg]
          refine zg_iload_n X dX6_endDueGrants_34 rfl ?_
          refine zg_iload_n X dX6_endDueGrants_35 rfl ?_
          refine zg_callSi X (k_X6_bit l D ad T _ g) zFr.rf gX6_endDueGrants_X6_bit rfl rfl rfl qd_X6_bit rfl ⟨Nat.le_of_ble_eq_true rfl, Nat.le_of_ble_eq_true rfl⟩ rfl (Nat.le_of_ble_eq_true rfl) ⟨Nat.le_of_ble_eq_true rfl, Nat.le_of_ble_eq_true rfl⟩ dX6_endDueGrants_36 (fun r w1 hz9 => ?_)
          obtain ⟨rfl, rfl⟩ := hz9
          refine zg_ior X dX6_endDueGrants_39 ?_
          refine zg_istore_n X dX6_endDueGrants_40 (by decide) ?_
          refine zg_aload_n X dX6_endDueGrants_41 rfl ?_
          refine zg_iload_n X dX6_endDueGrants_42 rfl ?_
          refine zg_callVi X (k_X6_wouldCutLastHolder l D ad T _ hI1 g hg) zFr.rf gX6_endDueGrants_X6_wouldCutLastHolder rfl rfl rfl qv_X6_wouldCutLastHolder rfl ⟨Nat.le_of_ble_eq_true rfl, Nat.le_of_ble_eq_true rfl⟩ (q0 := 0) (ci := 8) rfl rfl rfl (Nat.le_of_ble_eq_true rfl) ⟨Nat.le_of_ble_eq_true rfl, Nat.le_of_ble_eq_true rfl⟩ dX6_endDueGrants_43 (fun r w1 hz9 => ?_)
          obtain ⟨rfl, rfl⟩ := hz9
          refine zg_if_neb X dX6_endDueGrants_46 (tgt := 54) (by decide) (fun c_46 => ?_) (fun c_46 => ?_)
          · skip
            refine zg_iinc1 X dX6_endDueGrants_54 (by decide) rfl ?_
            refine zg_goto X dX6_endDueGrants_57 (tgt := 4) (by decide) ?_
            exact zg_lv (by exact ⟨rfl, rfl, rfl, trivial⟩) (ih4 (i + 1) (sn ||| bt1 g) s1 (by omega) (by omega) (by rw [← hb, hk, edg, if_neg c_30, eg, ix_nI (by omega), if_pos c_46, show σ.1 3 - (i + 1) = k by omega]) hI1 h3)
          · skip
            refine zg_aload_n X dX6_endDueGrants_49 rfl ?_
            refine zg_iload_n X dX6_endDueGrants_50 rfl ?_
            refine zg_callVv X (k_X6_end l D ad T _ hI1 g hg) zFr.rf gX6_endDueGrants_X6_end rfl rfl rfl qv_X6_end rfl ⟨Nat.le_of_ble_eq_true rfl, Nat.le_of_ble_eq_true rfl⟩ (q0 := 0) (ci := 8) rfl rfl rfl (Nat.le_of_ble_eq_true rfl) ⟨Nat.le_of_ble_eq_true rfl, Nat.le_of_ble_eq_true rfl⟩ dX6_endDueGrants_51 (fun w1 hz9 => ?_)
            obtain rfl := hz9
            refine zg_iinc1 X dX6_endDueGrants_54 (by decide) rfl ?_
            refine zg_goto X dX6_endDueGrants_57 (tgt := 4) (by decide) ?_
            exact zg_lv (by exact ⟨rfl, rfl, rfl, trivial⟩) (ih4 (i + 1) (sn ||| bt1 g) (endI s1 g) (by omega) (by omega) (by rw [← hb, hk, edg, if_neg c_30, eg, ix_nI (by omega), if_neg c_46, show σ.1 3 - (i + 1) = k by omega]) (zI_end hI1 hg) ((end_1 (by decide)).trans h3))
        · skip
          exact zg_vret X hr dX6_endDueGrants_33 (Nat.le_of_ble_eq_true rfl) (Nat.le_of_ble_eq_true rfl) (by rw [← hb, hk, edg, if_pos c_30])
  exact zg_lv (by exact ⟨rfl, rfl, rfl, trivial⟩) (LP4 (σ.1 3 + 1) 0 _ σ (by omega) (by omega) rfl hI rfl)

set_option maxHeartbeats 4000000 in
set_option maxRecDepth 100000 in
theorem k_X6_decideBySilence (l : Launch) (D : va_G) (ad : Nat → Nat) (T : Nat → ClassId) (σ : ZS) (hI : zI σ) (hU : zU σ)  : zM l yX6_decideBySilence wsX6_decideBySilence ({ frames := 5, cells := 0, slots := 0, locals := 114 }) D (zT T) [.ref (ad 0)] (wC ad T σ) 0 0 (qV D (zT T) (fun w => w = wC ad T (silI σ))) := by
  have hB0 := hI.bd
  obtain ⟨b0, b1, b2, b3, b4, b5⟩ := hI.bd
  refine zg_of (cc := cX6_decideBySilence) (maxL := 3) (ret := none) (by decide) rfl (Nat.le_of_ble_eq_true rfl) (fun p e s m below meth c A hin hr X => ?_)
  have X : zC p s m _ meth c cX6_decideBySilence 3 wsX6_decideBySilence RX6 D (zT T) A := X
  have f6 : ∀ w ∈ u_ws RX6 TX6 9, w ∈ wsX6_decideBySilence := by decide +kernel
  have f0 : ∀ w ∈ u_ws RX0 TX0 8, w ∈ wsX6_decideBySilence := by decide +kernel
  have l271 : Cond.fieldLink RX6 271 "Recertify$Campaign" "count" "I" ∈ wsX6_decideBySilence := by decide +kernel
  have l279 : Cond.fieldLink RX6 279 "Recertify$Campaign" "verdicts" "[C" ∈ wsX6_decideBySilence := by decide +kernel
  have l284 : Cond.fieldLink RX6 284 "Recertify$Campaign" "grants" "[I" ∈ wsX6_decideBySilence := by decide +kernel
  have l40 : Cond.fieldLink RX6 40 "Recertify" "campaign" "LRecertify$Campaign;" ∈ wsX6_decideBySilence := by decide +kernel
  have l55 : Cond.fieldLink RX6 55 "Recertify" "limit" "I" ∈ wsX6_decideBySilence := by decide +kernel
  refine zg_iconst X (v := 0) dX6_decideBySilence_0 (by decide) ?_
  refine zg_istore_n X dX6_decideBySilence_1 (by decide) ?_
  have LP2 : ∀ (fu : Nat) (i : Nat) (s1 : ZS), σ.1 4 + 1 ≤ i + fu → i ≤ σ.1 4 → s1 = fN silF σ i → zG p l e (headSpec wsX6_decideBySilence ({ frames := 5, cells := 0, slots := 0, locals := 114 })).room s m [.ref (ad 0)].toArray below meth c D 3 A 0 0 (MQ below (qV D (zT T) (fun w => w = wC ad T (silI σ)) A) [.ref (ad 0)].toArray s 0 0 A) (wC ad T s1) 2 [(0, .ref (ad 0)), (1, .int (nI i))] [] := by
    intro fu
    induction fu with
    | zero => intro i s1 hfu hii _; exact absurd hfu (by omega)
    | succ fu ih2 =>
      intro i s1 hfu hii hs1
      refine zg_iload_n X dX6_decideBySilence_2 rfl ?_
      refine zg_aload_n X dX6_decideBySilence_3 rfl ?_
      refine rg_R_campaign X f6 l40 dX6_decideBySilence_4 ?_
      refine rg_Campaign_count X f0 l271 dX6_decideBySilence_7 ?_
      obtain ⟨hI1, hU1, h4, h33⟩ := zIU_silN hI hU i (by omega)
      rw [← hs1] at hI1 hU1 h4 h33
      refine zg_top (congrArg nI h4) ?_
      refine zg_icmpn_ge X dX6_decideBySilence_10 (tgt := 76) (by decide) (a := i) (b := σ.1 4) (by omega) (by omega) (fun c_10 => ?_) (fun c_10 => ?_)
      · skip
        exact zg_vret X hr dX6_decideBySilence_76 (Nat.le_of_ble_eq_true rfl) (Nat.le_of_ble_eq_true rfl) (by rw [hs1, silI, show i = σ.1 4 by omega])
      · skip
        refine zg_aload_n X dX6_decideBySilence_13 rfl ?_
        refine rg_R_campaign X f6 l40 dX6_decideBySilence_14 ?_
        refine rg_Campaign_verdicts X f0 l279 dX6_decideBySilence_17 ?_
        refine zg_iload_n X dX6_decideBySilence_20 rfl ?_
        refine rlC_verdicts X (by omega) dX6_decideBySilence_21 ?_
        refine zg_bipush X (v := 117) dX6_decideBySilence_22 (by decide) ?_
        refine zg_icmp_ne X dX6_decideBySilence_24 (tgt := 70) (by decide) (fun c_24 => ?_) (fun c_24 => ?_)
        · skip
          refine zg_iinc1 X dX6_decideBySilence_70 (by decide) rfl ?_
          refine zg_goto X dX6_decideBySilence_73 (tgt := 2) (by decide) ?_
          exact zg_lv (by exact ⟨rfl, rfl, trivial⟩) (ih2 (i + 1) s1 (by omega) (by omega) (by rw [fN, ← hs1, silF, if_neg c_24]))
        · skip
          refine zg_aload_n X dX6_decideBySilence_27 rfl ?_
          refine zg_aload_n X dX6_decideBySilence_28 rfl ?_
          refine rg_R_campaign X f6 l40 dX6_decideBySilence_29 ?_
          refine rg_Campaign_grants X f0 l284 dX6_decideBySilence_32 ?_
          refine zg_iload_n X dX6_decideBySilence_35 rfl ?_
          refine rlC_itemGrants X (by omega) dX6_decideBySilence_36 ?_
          obtain ⟨g0, hg0, eg⟩ := hI1.itm i (by omega)
          refine zg_top eg ?_
          refine zg_callVi X (k_X6_rateGrant l D ad T _ hI1 g0 hg0) zFr.rf gX6_decideBySilence_X6_rateGrant rfl rfl rfl qv_X6_rateGrant rfl ⟨Nat.le_of_ble_eq_true rfl, Nat.le_of_ble_eq_true rfl⟩ (q0 := 0) (ci := 8) rfl rfl rfl (Nat.le_of_ble_eq_true rfl) ⟨Nat.le_of_ble_eq_true rfl, Nat.le_of_ble_eq_true rfl⟩ dX6_decideBySilence_37 (fun r w1 hz9 => ?_)
          obtain ⟨rfl, rfl⟩ := hz9
          refine zg_aload_n X dX6_decideBySilence_40 rfl ?_
          refine rg_R_limit X f6 l55 dX6_decideBySilence_41 ?_
          refine zg_icmp_lt X dX6_decideBySilence_44 (tgt := 51) (by decide) (fun c_44 => ?_) (fun c_44 => ?_)
          · skip
            refine zg_iconst X (v := 0) dX6_decideBySilence_51 (by decide) ?_
            refine zg_istore_n X dX6_decideBySilence_52 (by decide) ?_
            refine zg_aload_n X dX6_decideBySilence_53 rfl ?_
            refine zg_iload_n X dX6_decideBySilence_54 rfl ?_
            refine zg_iload_n X dX6_decideBySilence_55 rfl ?_
            refine zg_if_eq X dX6_decideBySilence_56 (tgt := 64) (by decide) (fun _ => ?_) (fun q => absurd q (by decide))
            refine zg_bipush X (v := 107) dX6_decideBySilence_64 (by decide) ?_
            refine zg_iconst X (v := (-1)) dX6_decideBySilence_66 (by decide) ?_
            refine zg_callVv X (k_X6_decide l D ad T _ hI1 i _ (-1) (by omega) (by rw [show s1.1 6 = _ from hU1]; exact cntP_pos c_24 (by omega)) rfl) zFr.rf gX6_decideBySilence_X6_decide rfl rfl rfl qv_X6_decide rfl ⟨Nat.le_of_ble_eq_true rfl, Nat.le_of_ble_eq_true rfl⟩ (q0 := 0) (ci := 8) rfl rfl rfl (Nat.le_of_ble_eq_true rfl) ⟨Nat.le_of_ble_eq_true rfl, Nat.le_of_ble_eq_true rfl⟩ dX6_decideBySilence_67 (fun w1 hz9 => ?_)
            obtain rfl := hz9
            refine zg_iinc1 X dX6_decideBySilence_70 (by decide) rfl ?_
            refine zg_goto X dX6_decideBySilence_73 (tgt := 2) (by decide) ?_
            exact zg_lv (by exact ⟨rfl, rfl, trivial⟩) (ih2 (i + 1) (decI s1 i 107 (-1)) (by omega) (by omega) (by rw [fN, ← hs1, silF, if_pos c_24, eg, ix_nI (by omega), if_neg (zi_lt.mp c_44)]))
          · skip
            refine zg_iconst X (v := 1) dX6_decideBySilence_47 (by decide) ?_
            refine zg_goto X dX6_decideBySilence_48 (tgt := 52) (by decide) ?_
            refine zg_istore_n X dX6_decideBySilence_52 (by decide) ?_
            refine zg_aload_n X dX6_decideBySilence_53 rfl ?_
            refine zg_iload_n X dX6_decideBySilence_54 rfl ?_
            refine zg_iload_n X dX6_decideBySilence_55 rfl ?_
            refine zg_if_eq X dX6_decideBySilence_56 (tgt := 64) (by decide) (fun q => absurd q (by decide)) (fun _ => ?_)
            refine zg_bipush X (v := 114) dX6_decideBySilence_59 (by decide) ?_
            refine zg_goto X dX6_decideBySilence_61 (tgt := 66) (by decide) ?_
            refine zg_iconst X (v := (-1)) dX6_decideBySilence_66 (by decide) ?_
            refine zg_callVv X (k_X6_decide l D ad T _ hI1 i _ (-1) (by omega) (by rw [show s1.1 6 = _ from hU1]; exact cntP_pos c_24 (by omega)) rfl) zFr.rf gX6_decideBySilence_X6_decide rfl rfl rfl qv_X6_decide rfl ⟨Nat.le_of_ble_eq_true rfl, Nat.le_of_ble_eq_true rfl⟩ (q0 := 0) (ci := 8) rfl rfl rfl (Nat.le_of_ble_eq_true rfl) ⟨Nat.le_of_ble_eq_true rfl, Nat.le_of_ble_eq_true rfl⟩ dX6_decideBySilence_67 (fun w1 hz9 => ?_)
            obtain rfl := hz9
            refine zg_iinc1 X dX6_decideBySilence_70 (by decide) rfl ?_
            refine zg_goto X dX6_decideBySilence_73 (tgt := 2) (by decide) ?_
            exact zg_lv (by exact ⟨rfl, rfl, trivial⟩) (ih2 (i + 1) (decI s1 i 114 (-1)) (by omega) (by omega) (by rw [fN, ← hs1, silF, if_pos c_24, eg, ix_nI (by omega), if_pos (zi_le.mpr c_44)]))
  exact zg_lv (by exact ⟨rfl, rfl, trivial⟩) (LP2 (σ.1 4 + 1) 0 σ (by omega) (by omega) rfl)

set_option maxHeartbeats 4000000 in
set_option maxRecDepth 100000 in
theorem k_X6_pass (l : Launch) (hfl : l.stackTraces = false) (D : va_G) (ad : Nat → Nat) (T : Nat → ClassId) (σ : ZS) (hI : zI σ) (x : Int32) (hU : zU σ) : zMX l yX6_pass wsX6_pass ({ frames := 7, cells := 1, slots := 6, locals := 136 }) D (zT T) [.ref (ad 0), .int x] (wC ad T σ) 1 6 (qI D (zT T) (fun v w => ∃ s, sp_pass σ x = .inr (v, s) ∧ w = wC ad T s)) (xE D (zT T) (fun E w => sp_pass σ x = .inl E ∧ w = wC ad T σ)) := by
  have hB0 := hI.bd
  obtain ⟨b0, b1, b2, b3, b4, b5⟩ := hI.bd
  refine zg_ofx (cc := cX6_pass) (maxL := 3) (ret := (some .int)) (by decide) rfl (Nat.le_of_ble_eq_true rfl) (fun p e s m below meth c A hno hr X => ?_)
  have X : zC p s m _ meth c cX6_pass 3 wsX6_pass RX6 D (zT T) A := X
  have f6 : ∀ w ∈ u_ws RX6 TX6 9, w ∈ wsX6_pass := by decide +kernel
  have f0 : ∀ w ∈ u_ws RX0 TX0 8, w ∈ wsX6_pass := by decide +kernel
  have l241 : Cond.fieldLink RX6 241 "Recertify$Campaign" "undecided" "I" ∈ wsX6_pass := by decide +kernel
  have l244 : Cond.fieldLink RX6 244 "Recertify$Campaign" "deadline" "I" ∈ wsX6_pass := by decide +kernel
  have l40 : Cond.fieldLink RX6 40 "Recertify" "campaign" "LRecertify$Campaign;" ∈ wsX6_pass := by decide +kernel
  have l51 : Cond.fieldLink RX6 51 "Recertify" "day" "I" ∈ wsX6_pass := by decide +kernel
  refine zg_aload_n X dX6_pass_0 rfl ?_
  refine zg_iload_n X dX6_pass_1 rfl ?_
  refine zg_xcallVv X hno (k_X6_requireDays l hfl D ad T _ _) zFr.rf gX6_pass_X6_requireDays rfl rfl rfl qv_X6_requireDays rfl ⟨Nat.le_of_ble_eq_true rfl, Nat.le_of_ble_eq_true rfl⟩ (q0 := 0) (ci := 8) rfl rfl rfl (Nat.le_of_ble_eq_true rfl) ⟨Nat.le_of_ble_eq_true rfl, Nat.le_of_ble_eq_true rfl⟩ ⟨Nat.le_of_ble_eq_true rfl, Nat.le_of_ble_eq_true rfl⟩ dX6_pass_2 (fun E w1 h => ⟨by rw [h.1.1, sp_pass, if_neg h.1.2], h.2⟩) (fun w1 hz9 => ?_)
  obtain ⟨hd, rfl⟩ := hz9
  obtain ⟨d0, hd0, ed⟩ := nI_of2 (x := x) (M := 30) (n := 30) (by decide) (fun q => zi_le.mp hd.1 (by exact zi_lt0 q)) hd.2
  subst ed
  refine zg_iconst X (v := 0) dX6_pass_5 (by decide) ?_
  refine zg_istore_n X dX6_pass_6 (by decide) ?_
  have LP7 : ∀ (fu : Nat) (i : Nat) (s1 : ZS), d0 + 1 ≤ i + fu → i ≤ d0 → s1 = fN (fun _ s => dayI s) σ i → zI s1 ∧ zU s1 → zG p l e (headSpec wsX6_pass ({ frames := 7, cells := 1, slots := 6, locals := 136 })).room s m [.ref (ad 0), .int (nI d0)].toArray below meth c D 3 A 1 6 (vx_MQ below (qI D (zT T) (fun v w => ∃ s, sp_pass σ (nI d0) = .inr (v, s) ∧ w = wC ad T s) A) (xE D (zT T) (fun E w => sp_pass σ (nI d0) = .inl E ∧ w = wC ad T σ) A) [.ref (ad 0), .int (nI d0)].toArray s 1 6 A) (wC ad T s1) 7 [(0, .ref (ad 0)), (1, .int (nI d0)), (2, .int (nI i))] [] := by
    intro fu
    induction fu with
    | zero => intro i s1 hfu hii _ _; exact absurd hfu (by omega)
    | succ fu ih7 =>
      intro i s1 hfu hii hs1 hIU
      refine zg_iload_n X dX6_pass_7 rfl ?_
      refine zg_iload_n X dX6_pass_8 rfl ?_
      refine zg_icmpn_ge X dX6_pass_9 (tgt := 60) (by decide) (a := i) (b := d0) (by omega) (by omega) (fun c_9 => ?_) (fun c_9 => ?_)
      · skip
        refine zg_aload_n X dX6_pass_60 rfl ?_
        refine rg_R_day X f6 l51 dX6_pass_61 ?_
        exact zg_x (zg_iret X hr dX6_pass_64 (Nat.le_of_ble_eq_true rfl) (Nat.le_of_ble_eq_true rfl) (⟨opF s1, by rw [sp_pass, if_pos hd, ix_nI (by omega), show d0 = i by omega, ← hs1], rfl⟩))
      · skip
        refine zg_aload_n X dX6_pass_12 rfl ?_
        refine zg_dup X dX6_pass_13 rfl ?_
        refine rg_R_day X f6 l51 dX6_pass_14 ?_
        refine zg_iconst X (v := 1) dX6_pass_17 (by decide) ?_
        refine zg_iadd X dX6_pass_18 ?_
        refine rp_R_day X f6 l51 dX6_pass_19 ?_
        refine zg_aload_n X dX6_pass_22 rfl ?_
        refine rg_R_campaign X f6 l40 dX6_pass_23 ?_
        refine rg_Campaign_undecided X f0 l241 dX6_pass_26 ?_
        have h6 : s1.1 6 < 2 ^ 31 := by have := cntP_le (f := s1.2.2 17) (s1.1 4); have h7 := hIU.2; have h8 := hIU.1.bd.2.2.2.2.1; unfold zU at h7; omega
        refine zg_top (v' := nI (s1.1 6)) rfl ?_
        refine zg_ifn_le X dX6_pass_29 (tgt := 50) (by decide) (by omega) (fun c_29 => ?_) (fun c_29 => ?_)
        · skip
          refine zg_aload_n X dX6_pass_50 rfl ?_
          refine zg_callVv X (k_X6_endDueGrants l D ad T _ (zI_n0 (v := s1.2.1 0 + 1) hIU.1)) zFr.rf gX6_pass_X6_endDueGrants rfl rfl rfl qv_X6_endDueGrants rfl ⟨Nat.le_of_ble_eq_true rfl, Nat.le_of_ble_eq_true rfl⟩ (q0 := 0) (ci := 8) rfl rfl rfl (Nat.le_of_ble_eq_true rfl) ⟨Nat.le_of_ble_eq_true rfl, Nat.le_of_ble_eq_true rfl⟩ dX6_pass_51 (fun w1 hz9 => ?_)
          obtain rfl := hz9
          refine zg_iinc1 X dX6_pass_54 (by decide) rfl ?_
          refine zg_goto X dX6_pass_57 (tgt := 7) (by decide) ?_
          refine zg_w (w' := wC ad T (dayI s1)) (by rw [dayI_b (fun q => absurd q.1 (by omega))]) ?_
          exact zg_lv (by exact ⟨rfl, rfl, rfl, trivial⟩) (ih7 (i + 1) (dayI s1) (by omega) (by omega) (by rw [fN, ← hs1]) (zIU_day hIU.1 hIU.2))
        · skip
          refine zg_aload_n X dX6_pass_32 rfl ?_
          refine rg_R_day X f6 l51 dX6_pass_33 ?_
          refine zg_aload_n X dX6_pass_36 rfl ?_
          refine rg_R_campaign X f6 l40 dX6_pass_37 ?_
          refine rg_Campaign_deadline X f0 l244 dX6_pass_40 ?_
          refine zg_icmp_ne X dX6_pass_43 (tgt := 50) (by decide) (fun c_43 => ?_) (fun c_43 => ?_)
          · skip
            refine zg_aload_n X dX6_pass_50 rfl ?_
            refine zg_callVv X (k_X6_endDueGrants l D ad T _ (zI_n0 (v := s1.2.1 0 + 1) hIU.1)) zFr.rf gX6_pass_X6_endDueGrants rfl rfl rfl qv_X6_endDueGrants rfl ⟨Nat.le_of_ble_eq_true rfl, Nat.le_of_ble_eq_true rfl⟩ (q0 := 0) (ci := 8) rfl rfl rfl (Nat.le_of_ble_eq_true rfl) ⟨Nat.le_of_ble_eq_true rfl, Nat.le_of_ble_eq_true rfl⟩ dX6_pass_51 (fun w1 hz9 => ?_)
            obtain rfl := hz9
            refine zg_iinc1 X dX6_pass_54 (by decide) rfl ?_
            refine zg_goto X dX6_pass_57 (tgt := 7) (by decide) ?_
            refine zg_w (w' := wC ad T (dayI s1)) (by rw [dayI_b (fun q => c_43 q.2)]) ?_
            exact zg_lv (by exact ⟨rfl, rfl, rfl, trivial⟩) (ih7 (i + 1) (dayI s1) (by omega) (by omega) (by rw [fN, ← hs1]) (zIU_day hIU.1 hIU.2))
          · skip
            refine zg_aload_n X dX6_pass_46 rfl ?_
            refine zg_callVv X (k_X6_decideBySilence l D ad T _ (zI_n0 hIU.1) (zU_n0 hIU.2)) zFr.rf gX6_pass_X6_decideBySilence rfl rfl rfl qv_X6_decideBySilence rfl ⟨Nat.le_of_ble_eq_true rfl, Nat.le_of_ble_eq_true rfl⟩ (q0 := 0) (ci := 8) rfl rfl rfl (Nat.le_of_ble_eq_true rfl) ⟨Nat.le_of_ble_eq_true rfl, Nat.le_of_ble_eq_true rfl⟩ dX6_pass_47 (fun w1 hz9 => ?_)
            obtain rfl := hz9
            refine zg_aload_n X dX6_pass_50 rfl ?_
            refine zg_callVv X (k_X6_endDueGrants l D ad T _ (zIU_sil (zI_n0 hIU.1) (zU_n0 hIU.2)).1) zFr.rf gX6_pass_X6_endDueGrants rfl rfl rfl qv_X6_endDueGrants rfl ⟨Nat.le_of_ble_eq_true rfl, Nat.le_of_ble_eq_true rfl⟩ (q0 := 0) (ci := 8) rfl rfl rfl (Nat.le_of_ble_eq_true rfl) ⟨Nat.le_of_ble_eq_true rfl, Nat.le_of_ble_eq_true rfl⟩ dX6_pass_51 (fun w1 hz9 => ?_)
            obtain rfl := hz9
            refine zg_iinc1 X dX6_pass_54 (by decide) rfl ?_
            refine zg_goto X dX6_pass_57 (tgt := 7) (by decide) ?_
            refine zg_w (w' := wC ad T (dayI s1)) (by rw [dayI_a (by omega) c_43]) ?_
            exact zg_lv (by exact ⟨rfl, rfl, rfl, trivial⟩) (ih7 (i + 1) (dayI s1) (by omega) (by omega) (by rw [fN, ← hs1]) (zIU_day hIU.1 hIU.2))
  exact zg_lv (by exact ⟨rfl, rfl, rfl, trivial⟩) (LP7 (d0 + 1) 0 σ (by omega) (by omega) rfl ⟨hI, hU⟩)

set_option maxHeartbeats 4000000 in
set_option maxRecDepth 100000 in
theorem k_X6_answer (l : Launch) (hfl : l.stackTraces = false) (D : va_G) (ad : Nat → Nat) (T : Nat → ClassId) (σ : ZS) (hI : zI σ) (x y v : Int32) (hU : zU σ) : zMX l yX6_answer wsX6_answer ({ frames := 7, cells := 3, slots := 18, locals := 135 }) D (zT T) [.ref (ad 0), .int x, .int y, .int v] (wC ad T σ) 3 18 (qI D (zT T) (fun v0 w => ∃ s, sp_answer σ x y v = .inr (v0, s) ∧ w = wC ad T s)) (xE D (zT T) (fun E w => sp_answer σ x y v = .inl E ∧ w = wC ad T σ)) := by
  have hB0 := hI.bd
  obtain ⟨b0, b1, b2, b3, b4, b5⟩ := hI.bd
  have h6 : σ.1 6 < 2 ^ 31 := by have := cntP_le (f := σ.2.2 17) (σ.1 4); have h7 := hU; unfold zU at h7; omega
  refine zg_ofx (cc := cX6_answer) (maxL := 4) (ret := (some .int)) (by decide) rfl (Nat.le_of_ble_eq_true rfl) (fun p e s m below meth c A hno hr X => ?_)
  have X : zC p s m _ meth c cX6_answer 4 wsX6_answer RX6 D (zT T) A := X
  have f6 : ∀ w ∈ u_ws RX6 TX6 9, w ∈ wsX6_answer := by decide +kernel
  have f0 : ∀ w ∈ u_ws RX0 TX0 8, w ∈ wsX6_answer := by decide +kernel
  have l126 : Cond.classLink RX6 126 "java/lang/UnsupportedOperationException" ∈ wsX6_answer := by decide +kernel
  have l241 : Cond.fieldLink RX6 241 "Recertify$Campaign" "undecided" "I" ∈ wsX6_answer := by decide +kernel
  have l279 : Cond.fieldLink RX6 279 "Recertify$Campaign" "verdicts" "[C" ∈ wsX6_answer := by decide +kernel
  have l284 : Cond.fieldLink RX6 284 "Recertify$Campaign" "grants" "[I" ∈ wsX6_answer := by decide +kernel
  have l40 : Cond.fieldLink RX6 40 "Recertify" "campaign" "LRecertify$Campaign;" ∈ wsX6_answer := by decide +kernel
  have l61 : Cond.classLink RX6 61 "java/lang/IllegalArgumentException" ∈ wsX6_answer := by decide +kernel
  have l75 : Cond.classLink RX6 75 "java/lang/IllegalStateException" ∈ wsX6_answer := by decide +kernel
  refine zg_aload_n X dX6_answer_0 rfl ?_
  refine rg_R_campaign X f6 l40 dX6_answer_1 ?_
  refine rg_Campaign_undecided X f0 l241 dX6_answer_4 ?_
  refine zg_ifn_ne X dX6_answer_7 (tgt := 21) (by decide) (by omega) (fun c_7 => ?_) (fun c_7 => ?_)
  · skip
    refine zg_aload_n X dX6_answer_21 rfl ?_
    refine zg_iload_n X dX6_answer_22 rfl ?_
    refine zg_xcallVv X hno (k_X6_requirePerson l hfl D ad T _ hB0 _) zFr.rf gX6_answer_X6_requirePerson rfl rfl rfl qv_X6_requirePerson rfl ⟨Nat.le_of_ble_eq_true rfl, Nat.le_of_ble_eq_true rfl⟩ (q0 := 0) (ci := 8) rfl rfl rfl (Nat.le_of_ble_eq_true rfl) ⟨Nat.le_of_ble_eq_true rfl, Nat.le_of_ble_eq_true rfl⟩ ⟨Nat.le_of_ble_eq_true rfl, Nat.le_of_ble_eq_true rfl⟩ dX6_answer_23 (fun E w1 h => ⟨by rw [h.1.1, sp_answer, if_pos (show 0 < σ.1 6 by omega), if_neg (fun q => h.1.2 q.1)], h.2⟩) (fun w1 hz9 => ?_)
    obtain ⟨⟨j0, h0, e0⟩, rfl⟩ := hz9
    subst e0
    have k0 : j0 < 2 ^ 31 := by omega
    have p0 : pIn (nI j0) (σ.1 0) := pIn_nI (by omega) h0
    refine zg_aload_n X dX6_answer_26 rfl ?_
    refine zg_iload_n X dX6_answer_27 rfl ?_
    refine zg_xcallVv X hno (k_X6_requireItem l hfl D ad T _ hB0 _) zFr.rf gX6_answer_X6_requireItem rfl rfl rfl qv_X6_requireItem rfl ⟨Nat.le_of_ble_eq_true rfl, Nat.le_of_ble_eq_true rfl⟩ (q0 := 0) (ci := 8) rfl rfl rfl (Nat.le_of_ble_eq_true rfl) ⟨Nat.le_of_ble_eq_true rfl, Nat.le_of_ble_eq_true rfl⟩ ⟨Nat.le_of_ble_eq_true rfl, Nat.le_of_ble_eq_true rfl⟩ dX6_answer_28 (fun E w1 h => ⟨by rw [h.1.1, sp_answer, if_pos (show 0 < σ.1 6 by omega), if_neg (fun q => h.1.2 q.2)], h.2⟩) (fun w1 hz9 => ?_)
    obtain ⟨⟨j1, h1, e1⟩, rfl⟩ := hz9
    subst e1
    have k1 : j1 < 2 ^ 31 := by omega
    have p1 : pIn (nI j1) (σ.1 4) := pIn_nI (by omega) h1
    refine zg_iload_n X dX6_answer_31 rfl ?_
    refine zg_bipush X (v := 107) dX6_answer_32 (by decide) ?_
    refine zg_icmp_eq X dX6_answer_34 (tgt := 54) (by decide) (fun c_34 => ?_) (fun c_34 => ?_)
    · skip
      have hv : v = 107 ∨ v = 114 := by first | exact Or.inl c_34 | exact Or.inr c_40
      have hvc : vp_nar .char v = v := by rcases hv with rfl | rfl <;> rfl
      refine zg_aload_n X dX6_answer_54 rfl ?_
      refine rg_R_campaign X f6 l40 dX6_answer_55 ?_
      refine rg_Campaign_verdicts X f0 l279 dX6_answer_58 ?_
      refine zg_iload_n X dX6_answer_61 rfl ?_
      refine rlC_verdicts X (by omega) dX6_answer_62 ?_
      refine zg_bipush X (v := 117) dX6_answer_63 (by decide) ?_
      refine zg_icmp_eq X dX6_answer_65 (tgt := 79) (by decide) (fun c_65 => ?_) (fun c_65 => ?_)
      · skip
        refine zg_aload_n X dX6_answer_79 rfl ?_
        refine zg_aload_n X dX6_answer_80 rfl ?_
        refine rg_R_campaign X f6 l40 dX6_answer_81 ?_
        refine rg_Campaign_grants X f0 l284 dX6_answer_84 ?_
        refine zg_iload_n X dX6_answer_87 rfl ?_
        refine rlC_itemGrants X (by omega) dX6_answer_88 ?_
        obtain ⟨g0, hg0, eg⟩ := hI.itm j1 h1
        refine zg_top eg ?_
        refine zg_callVi X (k_X6_findReviewer l D ad T _ hI g0 hg0) zFr.rf gX6_answer_X6_findReviewer rfl rfl rfl qv_X6_findReviewer rfl ⟨Nat.le_of_ble_eq_true rfl, Nat.le_of_ble_eq_true rfl⟩ (q0 := 0) (ci := 8) rfl rfl rfl (Nat.le_of_ble_eq_true rfl) ⟨Nat.le_of_ble_eq_true rfl, Nat.le_of_ble_eq_true rfl⟩ dX6_answer_89 (fun r w1 hz9 => ?_)
        obtain ⟨rfl, rfl⟩ := hz9
        refine zg_iload_n X dX6_answer_92 rfl ?_
        refine zg_icmp_eq X dX6_answer_93 (tgt := 107) (by decide) (fun c_93 => ?_) (fun c_93 => ?_)
        · skip
          have hu : 0 < σ.1 6 := by omega
          have hvn : ¬ v = 117 := by rcases hv with rfl | rfl <;> decide
          refine zg_aload_n X dX6_answer_107 rfl ?_
          refine zg_iload_n X dX6_answer_108 rfl ?_
          refine zg_iload_n X dX6_answer_109 rfl ?_
          refine zg_iload_n X dX6_answer_110 rfl ?_
          refine zg_callVv X (k_X6_decide l D ad T _ hI j1 _ _ h1 hu hvc) zFr.rf gX6_answer_X6_decide rfl rfl rfl qv_X6_decide rfl ⟨Nat.le_of_ble_eq_true rfl, Nat.le_of_ble_eq_true rfl⟩ (q0 := 0) (ci := 8) rfl rfl rfl (Nat.le_of_ble_eq_true rfl) ⟨Nat.le_of_ble_eq_true rfl, Nat.le_of_ble_eq_true rfl⟩ dX6_answer_111 (fun w1 hz9 => ?_)
          obtain rfl := hz9
          refine zg_iload_n X dX6_answer_114 rfl ?_
          refine zg_bipush X (v := 114) dX6_answer_115 (by decide) ?_
          refine zg_icmp_ne X dX6_answer_117 (tgt := 124) (by decide) (fun c_117 => ?_) (fun c_117 => ?_)
          · skip
            refine zg_aload_n X dX6_answer_124 rfl ?_
            refine rg_R_campaign X f6 l40 dX6_answer_125 ?_
            refine rg_Campaign_undecided X f0 l241 dX6_answer_128 ?_
            exact zg_x (zg_iret X hr dX6_answer_131 (Nat.le_of_ble_eq_true rfl) (Nat.le_of_ble_eq_true rfl) (⟨opF (decI σ j1 v (nI j0)), by rw [sp_answer, if_pos (show 0 < σ.1 6 by omega), if_pos (And.intro p0 p1), if_pos hv, ix_nI k1, eg, ix_nI (by omega), if_pos (And.intro c_65 c_93), ansI, if_neg c_117], rfl⟩))
          · skip
            refine zg_aload_n X dX6_answer_120 rfl ?_
            refine zg_callVv X (k_X6_endDueGrants l D ad T _ (zI_dec hI)) zFr.rf gX6_answer_X6_endDueGrants rfl rfl rfl qv_X6_endDueGrants rfl ⟨Nat.le_of_ble_eq_true rfl, Nat.le_of_ble_eq_true rfl⟩ (q0 := 0) (ci := 8) rfl rfl rfl (Nat.le_of_ble_eq_true rfl) ⟨Nat.le_of_ble_eq_true rfl, Nat.le_of_ble_eq_true rfl⟩ dX6_answer_121 (fun w1 hz9 => ?_)
            obtain rfl := hz9
            refine zg_aload_n X dX6_answer_124 rfl ?_
            refine rg_R_campaign X f6 l40 dX6_answer_125 ?_
            refine rg_Campaign_undecided X f0 l241 dX6_answer_128 ?_
            exact zg_x (zg_iret X hr dX6_answer_131 (Nat.le_of_ble_eq_true rfl) (Nat.le_of_ble_eq_true rfl) (⟨opF (edgI (decI σ j1 v (nI j0))), by rw [sp_answer, if_pos (show 0 < σ.1 6 by omega), if_pos (And.intro p0 p1), if_pos hv, ix_nI k1, eg, ix_nI (by omega), if_pos (And.intro c_65 c_93), ansI, if_pos c_117], rfl⟩))
        · skip
          exact zg_throwW X hfl (text := "the person is not the reviewer") hno tq_X6_130.1 tq_X6_130.2.1 l126 (by decide +kernel) (by decide +kernel) (fun w h => by have h : w ∈ (vx_atS RX6 130 "java/lang/UnsupportedOperationException" ["java/lang/RuntimeException", "java/lang/Exception"]).filter goodWord := h; revert w; decide +kernel) tq_X6_130.2.2.1 (by decide +kernel) tq_X6_130.2.2.2 dX6_answer_96 dX6_answer_99 dX6_answer_100 dX6_answer_103 dX6_answer_106 ⟨Nat.le_of_ble_eq_true rfl, Nat.le_of_ble_eq_true rfl, Nat.le_of_ble_eq_true rfl, Nat.le_of_ble_eq_true rfl⟩ ⟨Nat.le_of_ble_eq_true rfl, Nat.le_of_ble_eq_true rfl⟩ (⟨by rw [sp_answer, if_pos (show 0 < σ.1 6 by omega), if_pos (And.intro p0 p1), if_pos hv, ix_nI k1, eg, ix_nI (by omega), if_neg (fun q => c_93 q.2)], rfl⟩)
      · skip
        exact zg_throwW X hfl (text := "the item is decided") hno tq_X6_130.1 tq_X6_130.2.1 l126 (by decide +kernel) (by decide +kernel) (fun w h => by have h : w ∈ (vx_atS RX6 130 "java/lang/UnsupportedOperationException" ["java/lang/RuntimeException", "java/lang/Exception"]).filter goodWord := h; revert w; decide +kernel) tq_X6_130.2.2.1 (by decide +kernel) tq_X6_130.2.2.2 dX6_answer_68 dX6_answer_71 dX6_answer_72 dX6_answer_75 dX6_answer_78 ⟨Nat.le_of_ble_eq_true rfl, Nat.le_of_ble_eq_true rfl, Nat.le_of_ble_eq_true rfl, Nat.le_of_ble_eq_true rfl⟩ ⟨Nat.le_of_ble_eq_true rfl, Nat.le_of_ble_eq_true rfl⟩ (⟨by rw [sp_answer, if_pos (show 0 < σ.1 6 by omega), if_pos (And.intro p0 p1), if_pos hv, ix_nI k1, if_neg (fun q => c_65 q.1)], rfl⟩)
    · skip
      refine zg_iload_n X dX6_answer_37 rfl ?_
      refine zg_bipush X (v := 114) dX6_answer_38 (by decide) ?_
      refine zg_icmp_eq X dX6_answer_40 (tgt := 54) (by decide) (fun c_40 => ?_) (fun c_40 => ?_)
      · skip
        have hv : v = 107 ∨ v = 114 := by first | exact Or.inl c_34 | exact Or.inr c_40
        have hvc : vp_nar .char v = v := by rcases hv with rfl | rfl <;> rfl
        refine zg_aload_n X dX6_answer_54 rfl ?_
        refine rg_R_campaign X f6 l40 dX6_answer_55 ?_
        refine rg_Campaign_verdicts X f0 l279 dX6_answer_58 ?_
        refine zg_iload_n X dX6_answer_61 rfl ?_
        refine rlC_verdicts X (by omega) dX6_answer_62 ?_
        refine zg_bipush X (v := 117) dX6_answer_63 (by decide) ?_
        refine zg_icmp_eq X dX6_answer_65 (tgt := 79) (by decide) (fun c_65 => ?_) (fun c_65 => ?_)
        · skip
          refine zg_aload_n X dX6_answer_79 rfl ?_
          refine zg_aload_n X dX6_answer_80 rfl ?_
          refine rg_R_campaign X f6 l40 dX6_answer_81 ?_
          refine rg_Campaign_grants X f0 l284 dX6_answer_84 ?_
          refine zg_iload_n X dX6_answer_87 rfl ?_
          refine rlC_itemGrants X (by omega) dX6_answer_88 ?_
          obtain ⟨g0, hg0, eg⟩ := hI.itm j1 h1
          refine zg_top eg ?_
          refine zg_callVi X (k_X6_findReviewer l D ad T _ hI g0 hg0) zFr.rf gX6_answer_X6_findReviewer rfl rfl rfl qv_X6_findReviewer rfl ⟨Nat.le_of_ble_eq_true rfl, Nat.le_of_ble_eq_true rfl⟩ (q0 := 0) (ci := 8) rfl rfl rfl (Nat.le_of_ble_eq_true rfl) ⟨Nat.le_of_ble_eq_true rfl, Nat.le_of_ble_eq_true rfl⟩ dX6_answer_89 (fun r w1 hz9 => ?_)
          obtain ⟨rfl, rfl⟩ := hz9
          refine zg_iload_n X dX6_answer_92 rfl ?_
          refine zg_icmp_eq X dX6_answer_93 (tgt := 107) (by decide) (fun c_93 => ?_) (fun c_93 => ?_)
          · skip
            have hu : 0 < σ.1 6 := by omega
            have hvn : ¬ v = 117 := by rcases hv with rfl | rfl <;> decide
            refine zg_aload_n X dX6_answer_107 rfl ?_
            refine zg_iload_n X dX6_answer_108 rfl ?_
            refine zg_iload_n X dX6_answer_109 rfl ?_
            refine zg_iload_n X dX6_answer_110 rfl ?_
            refine zg_callVv X (k_X6_decide l D ad T _ hI j1 _ _ h1 hu hvc) zFr.rf gX6_answer_X6_decide rfl rfl rfl qv_X6_decide rfl ⟨Nat.le_of_ble_eq_true rfl, Nat.le_of_ble_eq_true rfl⟩ (q0 := 0) (ci := 8) rfl rfl rfl (Nat.le_of_ble_eq_true rfl) ⟨Nat.le_of_ble_eq_true rfl, Nat.le_of_ble_eq_true rfl⟩ dX6_answer_111 (fun w1 hz9 => ?_)
            obtain rfl := hz9
            refine zg_iload_n X dX6_answer_114 rfl ?_
            refine zg_bipush X (v := 114) dX6_answer_115 (by decide) ?_
            refine zg_icmp_ne X dX6_answer_117 (tgt := 124) (by decide) (fun c_117 => ?_) (fun c_117 => ?_)
            · skip
              refine zg_aload_n X dX6_answer_124 rfl ?_
              refine rg_R_campaign X f6 l40 dX6_answer_125 ?_
              refine rg_Campaign_undecided X f0 l241 dX6_answer_128 ?_
              exact zg_x (zg_iret X hr dX6_answer_131 (Nat.le_of_ble_eq_true rfl) (Nat.le_of_ble_eq_true rfl) (⟨opF (decI σ j1 v (nI j0)), by rw [sp_answer, if_pos (show 0 < σ.1 6 by omega), if_pos (And.intro p0 p1), if_pos hv, ix_nI k1, eg, ix_nI (by omega), if_pos (And.intro c_65 c_93), ansI, if_neg c_117], rfl⟩))
            · skip
              refine zg_aload_n X dX6_answer_120 rfl ?_
              refine zg_callVv X (k_X6_endDueGrants l D ad T _ (zI_dec hI)) zFr.rf gX6_answer_X6_endDueGrants rfl rfl rfl qv_X6_endDueGrants rfl ⟨Nat.le_of_ble_eq_true rfl, Nat.le_of_ble_eq_true rfl⟩ (q0 := 0) (ci := 8) rfl rfl rfl (Nat.le_of_ble_eq_true rfl) ⟨Nat.le_of_ble_eq_true rfl, Nat.le_of_ble_eq_true rfl⟩ dX6_answer_121 (fun w1 hz9 => ?_)
              obtain rfl := hz9
              refine zg_aload_n X dX6_answer_124 rfl ?_
              refine rg_R_campaign X f6 l40 dX6_answer_125 ?_
              refine rg_Campaign_undecided X f0 l241 dX6_answer_128 ?_
              exact zg_x (zg_iret X hr dX6_answer_131 (Nat.le_of_ble_eq_true rfl) (Nat.le_of_ble_eq_true rfl) (⟨opF (edgI (decI σ j1 v (nI j0))), by rw [sp_answer, if_pos (show 0 < σ.1 6 by omega), if_pos (And.intro p0 p1), if_pos hv, ix_nI k1, eg, ix_nI (by omega), if_pos (And.intro c_65 c_93), ansI, if_pos c_117], rfl⟩))
          · skip
            exact zg_throwW X hfl (text := "the person is not the reviewer") hno tq_X6_130.1 tq_X6_130.2.1 l126 (by decide +kernel) (by decide +kernel) (fun w h => by have h : w ∈ (vx_atS RX6 130 "java/lang/UnsupportedOperationException" ["java/lang/RuntimeException", "java/lang/Exception"]).filter goodWord := h; revert w; decide +kernel) tq_X6_130.2.2.1 (by decide +kernel) tq_X6_130.2.2.2 dX6_answer_96 dX6_answer_99 dX6_answer_100 dX6_answer_103 dX6_answer_106 ⟨Nat.le_of_ble_eq_true rfl, Nat.le_of_ble_eq_true rfl, Nat.le_of_ble_eq_true rfl, Nat.le_of_ble_eq_true rfl⟩ ⟨Nat.le_of_ble_eq_true rfl, Nat.le_of_ble_eq_true rfl⟩ (⟨by rw [sp_answer, if_pos (show 0 < σ.1 6 by omega), if_pos (And.intro p0 p1), if_pos hv, ix_nI k1, eg, ix_nI (by omega), if_neg (fun q => c_93 q.2)], rfl⟩)
        · skip
          exact zg_throwW X hfl (text := "the item is decided") hno tq_X6_130.1 tq_X6_130.2.1 l126 (by decide +kernel) (by decide +kernel) (fun w h => by have h : w ∈ (vx_atS RX6 130 "java/lang/UnsupportedOperationException" ["java/lang/RuntimeException", "java/lang/Exception"]).filter goodWord := h; revert w; decide +kernel) tq_X6_130.2.2.1 (by decide +kernel) tq_X6_130.2.2.2 dX6_answer_68 dX6_answer_71 dX6_answer_72 dX6_answer_75 dX6_answer_78 ⟨Nat.le_of_ble_eq_true rfl, Nat.le_of_ble_eq_true rfl, Nat.le_of_ble_eq_true rfl, Nat.le_of_ble_eq_true rfl⟩ ⟨Nat.le_of_ble_eq_true rfl, Nat.le_of_ble_eq_true rfl⟩ (⟨by rw [sp_answer, if_pos (show 0 < σ.1 6 by omega), if_pos (And.intro p0 p1), if_pos hv, ix_nI k1, if_neg (fun q => c_65 q.1)], rfl⟩)
      · skip
        exact zg_throwW X hfl (text := "there is no such verdict") hno tq_X6_65.1 tq_X6_65.2.1 l61 (by decide +kernel) (by decide +kernel) (fun w h => by have h : w ∈ (vx_atS RX6 65 "java/lang/IllegalArgumentException" ["java/lang/RuntimeException", "java/lang/Exception"]).filter goodWord := h; revert w; decide +kernel) tq_X6_65.2.2.1 (by decide +kernel) tq_X6_65.2.2.2 dX6_answer_43 dX6_answer_46 dX6_answer_47 dX6_answer_50 dX6_answer_53 ⟨Nat.le_of_ble_eq_true rfl, Nat.le_of_ble_eq_true rfl, Nat.le_of_ble_eq_true rfl, Nat.le_of_ble_eq_true rfl⟩ ⟨Nat.le_of_ble_eq_true rfl, Nat.le_of_ble_eq_true rfl⟩ (⟨by rw [sp_answer, if_pos (show 0 < σ.1 6 by omega), if_pos (And.intro p0 p1), if_neg (fun q => q.elim c_34 c_40)], rfl⟩)
  · skip
    exact zg_throwW X hfl (text := "no campaign is open") hno tq_X6_79.1 tq_X6_79.2.1 l75 (by decide +kernel) (by decide +kernel) (fun w h => by have h : w ∈ (vx_atS RX6 79 "java/lang/IllegalStateException" ["java/lang/RuntimeException", "java/lang/Exception"]).filter goodWord := h; revert w; decide +kernel) tq_X6_79.2.2.1 (by decide +kernel) tq_X6_79.2.2.2 dX6_answer_10 dX6_answer_13 dX6_answer_14 dX6_answer_17 dX6_answer_20 ⟨Nat.le_of_ble_eq_true rfl, Nat.le_of_ble_eq_true rfl, Nat.le_of_ble_eq_true rfl, Nat.le_of_ble_eq_true rfl⟩ ⟨Nat.le_of_ble_eq_true rfl, Nat.le_of_ble_eq_true rfl⟩ (⟨by rw [sp_answer, if_neg (show ¬ 0 < σ.1 6 by omega)], rfl⟩)
