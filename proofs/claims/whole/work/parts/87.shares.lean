/-! rows of methods, laid by a program of mine (wip/whole/walk.py) out of the bytecode and annotations -/
theorem qd_X6_meanRisk : yX6_meanRisk.cls ≠ "java/lang/invoke/MethodHandle" ∧ yX6_meanRisk.cls ≠ "java/lang/invoke/VarHandle" ∧ (parseMethodDescriptor yX6_meanRisk.desc).map (fun d => d.parameters.length) = some 0 := by decide +kernel
theorem qv_X6_meanRisk : yX6_meanRisk.cls = RX6 ∧ yX6_meanRisk.cls ≠ "java/lang/invoke/MethodHandle" ∧ yX6_meanRisk.cls ≠ "java/lang/invoke/VarHandle" ∧ (parseMethodDescriptor yX6_meanRisk.desc).map (fun d => d.parameters.length) = some 0 := ⟨rfl, qd_X6_meanRisk⟩
theorem qd_X6_revokedShare : yX6_revokedShare.cls ≠ "java/lang/invoke/MethodHandle" ∧ yX6_revokedShare.cls ≠ "java/lang/invoke/VarHandle" ∧ (parseMethodDescriptor yX6_revokedShare.desc).map (fun d => d.parameters.length) = some 0 := by decide +kernel
theorem qv_X6_revokedShare : yX6_revokedShare.cls = RX6 ∧ yX6_revokedShare.cls ≠ "java/lang/invoke/MethodHandle" ∧ yX6_revokedShare.cls ≠ "java/lang/invoke/VarHandle" ∧ (parseMethodDescriptor yX6_revokedShare.desc).map (fun d => d.parameters.length) = some 0 := ⟨rfl, qd_X6_revokedShare⟩
theorem qd_X7_meanRisk : yX7_meanRisk.cls ≠ "java/lang/invoke/MethodHandle" ∧ yX7_meanRisk.cls ≠ "java/lang/invoke/VarHandle" ∧ (parseMethodDescriptor yX7_meanRisk.desc).map (fun d => d.parameters.length) = some 0 := by decide +kernel
theorem qv_X7_meanRisk : yX7_meanRisk.cls = RX7 ∧ yX7_meanRisk.cls ≠ "java/lang/invoke/MethodHandle" ∧ yX7_meanRisk.cls ≠ "java/lang/invoke/VarHandle" ∧ (parseMethodDescriptor yX7_meanRisk.desc).map (fun d => d.parameters.length) = some 0 := ⟨rfl, qd_X7_meanRisk⟩
theorem qd_X7_revokedShare : yX7_revokedShare.cls ≠ "java/lang/invoke/MethodHandle" ∧ yX7_revokedShare.cls ≠ "java/lang/invoke/VarHandle" ∧ (parseMethodDescriptor yX7_revokedShare.desc).map (fun d => d.parameters.length) = some 0 := by decide +kernel
theorem qv_X7_revokedShare : yX7_revokedShare.cls = RX7 ∧ yX7_revokedShare.cls ≠ "java/lang/invoke/MethodHandle" ∧ yX7_revokedShare.cls ≠ "java/lang/invoke/VarHandle" ∧ (parseMethodDescriptor yX7_revokedShare.desc).map (fun d => d.parameters.length) = some 0 := ⟨rfl, qd_X7_revokedShare⟩
theorem tq_X6_234 : Bundle.fit "java/lang/ArithmeticException" = true ∧ (∀ n ∈ (["java/lang/RuntimeException", "java/lang/Exception"] : List String), Bundle.fit n = true) ∧ (∀ w ∈ (vx_atS RX6 234 "java/lang/ArithmeticException" ["java/lang/RuntimeException", "java/lang/Exception"]).filter (fun w => !goodWord w), w ∈ (Cond.castable "java/lang/ArithmeticException" "java/lang/ArithmeticException" :: zDecl.map (fun q => Cond.declares q) : List Cond)) ∧ (∀ w ∈ Cond.classLink RX6 230 "java/lang/ArithmeticException" :: Cond.initialized "java/lang/ArithmeticException" :: vx_atS RX6 234 "java/lang/ArithmeticException" ["java/lang/RuntimeException", "java/lang/Exception"], vx_ot w = true) := by decide +kernel
/-- the share of revoked items -/
def sp_rsh (σ : ZS) : String ⊕ UInt32 := if σ.2.1 4 = 0 then .inl eAR else .inr (FP.fdiv (FP.i2f (σ.2.1 5)) (FP.i2f (σ.2.1 4)))
def mrN (σ : ZS) (n : Nat) : Nat := fN (fun g c => if σ.2.2 11 g = 120 then c else c + 1) 0 n
def mrS (σ : ZS) (n : Nat) : Int32 := fN (fun g c => if σ.2.2 11 g = 120 then c else c + rgI σ g) 0 n
/-- the mean risk of the active grants -/
def sp_mrk (σ : ZS) : String ⊕ UInt64 := if mrN σ (σ.1 3) = 0 then .inl eAR else .inr (FP.ddiv (FP.i2d (mrS σ (σ.1 3))) (FP.i2d (nI (mrN σ (σ.1 3)))))
def mF {α : Type} (σ : ZS) (r : String ⊕ α) (v : α) (t : ZS) : Prop := (r = .inr v ∧ ovl t σ ∧ t.2.1 7 = σ.2.1 7 ∧ t.2.1 8 = 0) ∨ (r = .inl eAR ∧ ovl t σ ∧ t.2.1 7 = σ.2.1 7 ∧ t.2.1 8 = 1)
set_option maxHeartbeats 4000000 in
set_option maxRecDepth 100000 in
theorem k_X6_revokedShare (l : Launch) (hfl : l.stackTraces = false) (D : va_G) (ad : Nat → Nat) (T : Nat → ClassId) (σ : ZS) (hI : zI σ) : zMX l yX6_revokedShare wsX6_revokedShare ({ frames := 6, cells := 1, slots := 6, locals := 90 }) D (zT T) [.ref (ad 0)] (wC ad T σ) 1 6 (qF D (zT T) (fun v w => sp_rsh σ = .inr v ∧ w = wC ad T σ)) (xE D (zT T) (fun E w => sp_rsh σ = .inl E ∧ w = wC ad T σ)) := by
  refine zg_ofx (cc := cX6_revokedShare) (maxL := 1) (ret := (some .float)) (by decide) rfl (Nat.le_of_ble_eq_true rfl) (fun p e s m below meth c A hno hr X => ?_)
  have X : zC p s m _ meth c cX6_revokedShare 1 wsX6_revokedShare RX6 D (zT T) A := X
  have f6 : ∀ w ∈ u_ws RX6 TX6 9, w ∈ wsX6_revokedShare := by decide +kernel
  have f0 : ∀ w ∈ u_ws RX0 TX0 8, w ∈ wsX6_revokedShare := by decide +kernel
  have l230 : Cond.classLink RX6 230 "java/lang/ArithmeticException" ∈ wsX6_revokedShare := by decide +kernel
  have l299 : Cond.fieldLink RX6 299 "Recertify$Campaign" "everDecided" "I" ∈ wsX6_revokedShare := by decide +kernel
  have l304 : Cond.fieldLink RX6 304 "Recertify$Campaign" "everRevoked" "I" ∈ wsX6_revokedShare := by decide +kernel
  have l40 : Cond.fieldLink RX6 40 "Recertify" "campaign" "LRecertify$Campaign;" ∈ wsX6_revokedShare := by decide +kernel
  refine zg_aload_n X dX6_revokedShare_0 rfl ?_
  refine rg_R_campaign X f6 l40 dX6_revokedShare_1 ?_
  refine rg_Campaign_everDecided X f0 l299 dX6_revokedShare_4 ?_
  refine zg_if_ne X dX6_revokedShare_7 (tgt := 21) (by decide) (fun c_7 => ?_) (fun c_7 => ?_)
  · skip
    refine zg_aload_n X dX6_revokedShare_21 rfl ?_
    refine rg_R_campaign X f6 l40 dX6_revokedShare_22 ?_
    refine rg_Campaign_everRevoked X f0 l304 dX6_revokedShare_25 ?_
    refine zg_i2f X dX6_revokedShare_28 ?_
    refine zg_aload_n X dX6_revokedShare_29 rfl ?_
    refine rg_R_campaign X f6 l40 dX6_revokedShare_30 ?_
    refine rg_Campaign_everDecided X f0 l299 dX6_revokedShare_33 ?_
    refine zg_i2f X dX6_revokedShare_36 ?_
    refine zg_fdiv X (fl_n32 (fl_fdiv (show ¬ σ.2.1 4 = 0 from c_7))) dX6_revokedShare_37 ?_
    exact zg_x (zg_fret X hr dX6_revokedShare_38 (Nat.le_of_ble_eq_true rfl) (Nat.le_of_ble_eq_true rfl) (⟨if_neg (show ¬ σ.2.1 4 = 0 from c_7), rfl⟩))
  · skip
    exact zg_throwW X hfl (text := "no item has been decided") hno tq_X6_234.1 tq_X6_234.2.1 l230 (by decide +kernel) (by decide +kernel) (fun w h => by have h : w ∈ (vx_atS RX6 234 "java/lang/ArithmeticException" ["java/lang/RuntimeException", "java/lang/Exception"]).filter goodWord := h; revert w; decide +kernel) tq_X6_234.2.2.1 (by decide +kernel) tq_X6_234.2.2.2 dX6_revokedShare_10 dX6_revokedShare_13 dX6_revokedShare_14 dX6_revokedShare_17 dX6_revokedShare_20 ⟨Nat.le_of_ble_eq_true rfl, Nat.le_of_ble_eq_true rfl, Nat.le_of_ble_eq_true rfl, Nat.le_of_ble_eq_true rfl⟩ ⟨Nat.le_of_ble_eq_true rfl, Nat.le_of_ble_eq_true rfl⟩ (⟨if_pos (show σ.2.1 4 = 0 from c_7), rfl⟩)

set_option maxHeartbeats 4000000 in
set_option maxRecDepth 100000 in
theorem k_X7_revokedShare (l : Launch) (D : va_G) (ad : Nat → Nat) (T : Nat → ClassId) (σ : ZS) (hI : zI σ) : zM l yX7_revokedShare wsX7_revokedShare ({ frames := 1, cells := 0, slots := 0, locals := 21 }) D (zT T) [.ref (ad 0)] (wM ad T σ) 0 0 (qF D (zT T) (fun v0 w => ∃ t, mF σ (sp_rsh σ) v0 t ∧ w = wM ad T t)) := by
  refine zg_of (cc := cX7_revokedShare) (maxL := 1) (ret := (some .float)) (by decide) rfl (Nat.le_of_ble_eq_true rfl) (fun p e s m below meth c A hin hr X => ?_)
  have X : zC p s m _ meth c cX7_revokedShare 1 wsX7_revokedShare RX7 D (zT T) A := X
  have f7 : ∀ w ∈ u_ws RX7 TX7 37, w ∈ wsX7_revokedShare := by decide +kernel
  have l185 : Cond.fieldLink RX7 185 "RecertifyModel" "decidedAll" "I" ∈ wsX7_revokedShare := by decide +kernel
  have l191 : Cond.fieldLink RX7 191 "RecertifyModel" "revokedAll" "I" ∈ wsX7_revokedShare := by decide +kernel
  have l85 : Cond.fieldLink RX7 85 "RecertifyModel" "thrown" "I" ∈ wsX7_revokedShare := by decide +kernel
  refine zg_aload_n X dX7_revokedShare_0 rfl ?_
  refine zg_iconst X (v := 0) dX7_revokedShare_1 (by decide) ?_
  refine rp_M_thrown X f7 l85 dX7_revokedShare_2 ?_
  refine zg_aload_n X dX7_revokedShare_5 rfl ?_
  refine rg_M_decidedAll X f7 l185 dX7_revokedShare_6 ?_
  refine zg_if_ne X dX7_revokedShare_9 (tgt := 19) (by decide) (fun c_9 => ?_) (fun c_9 => ?_)
  · skip
    refine zg_aload_n X dX7_revokedShare_19 rfl ?_
    refine rg_M_revokedAll X f7 l191 dX7_revokedShare_20 ?_
    refine zg_i2f X dX7_revokedShare_23 ?_
    refine zg_aload_n X dX7_revokedShare_24 rfl ?_
    refine rg_M_decidedAll X f7 l185 dX7_revokedShare_25 ?_
    refine zg_i2f X dX7_revokedShare_28 ?_
    refine zg_fdiv X (fl_n32 (fl_fdiv (show ¬ σ.2.1 4 = 0 from c_9))) dX7_revokedShare_29 ?_
    exact zg_fret X hr dX7_revokedShare_30 (Nat.le_of_ble_eq_true rfl) (Nat.le_of_ble_eq_true rfl) (⟨uN σ 8 0, Or.inl ⟨if_neg (show ¬ σ.2.1 4 = 0 from c_9), ovl_8, rfl, rfl⟩, rfl⟩)
  · skip
    refine zg_aload_n X dX7_revokedShare_12 rfl ?_
    refine zg_iconst X (v := 1) dX7_revokedShare_13 (by decide) ?_
    refine zg_callVi X (k_X7_fails l D ad T (uN σ 8 0) 1) zFr.rf gX7_revokedShare_X7_fails rfl rfl rfl qv_X7_fails rfl ⟨Nat.le_of_ble_eq_true rfl, Nat.le_of_ble_eq_true rfl⟩ (q0 := 0) (ci := 9) rfl rfl rfl (Nat.le_of_ble_eq_true rfl) ⟨Nat.le_of_ble_eq_true rfl, Nat.le_of_ble_eq_true rfl⟩ dX7_revokedShare_14 (fun r w1 hz9 => ?_)
    obtain ⟨rfl, rfl⟩ := hz9
    refine zg_i2f X dX7_revokedShare_17 ?_
    exact zg_fret X hr dX7_revokedShare_18 (Nat.le_of_ble_eq_true rfl) (Nat.le_of_ble_eq_true rfl) (⟨uN (uN σ 8 0) 8 1, Or.inr ⟨if_pos (show σ.2.1 4 = 0 from c_9), ovl_tr ovl_8 ovl_8, rfl, rfl⟩, rfl⟩)

set_option maxHeartbeats 4000000 in
set_option maxRecDepth 100000 in
theorem k_X6_meanRisk (l : Launch) (hfl : l.stackTraces = false) (D : va_G) (ad : Nat → Nat) (T : Nat → ClassId) (σ : ZS) (hI : zI σ) : zMX l yX6_meanRisk wsX6_meanRisk ({ frames := 6, cells := 1, slots := 6, locals := 114 }) D (zT T) [.ref (ad 0)] (wC ad T σ) 1 6 (qD D (zT T) (fun v w => sp_mrk σ = .inr v ∧ w = wC ad T σ)) (xE D (zT T) (fun E w => sp_mrk σ = .inl E ∧ w = wC ad T σ)) := by
  have hB0 := hI.bd
  obtain ⟨b0, b1, b2, b3, b4, b5⟩ := hI.bd
  refine zg_ofx (cc := cX6_meanRisk) (maxL := 4) (ret := (some .double)) (by decide) rfl (Nat.le_of_ble_eq_true rfl) (fun p e s m below meth c A hno hr X => ?_)
  have X : zC p s m _ meth c cX6_meanRisk 4 wsX6_meanRisk RX6 D (zT T) A := X
  have f6 : ∀ w ∈ u_ws RX6 TX6 9, w ∈ wsX6_meanRisk := by decide +kernel
  have f2 : ∀ w ∈ u_ws RX2 TX2 7, w ∈ wsX6_meanRisk := by decide +kernel
  have l173 : Cond.fieldLink RX6 173 "Recertify$Grants" "count" "I" ∈ wsX6_meanRisk := by decide +kernel
  have l186 : Cond.fieldLink RX6 186 "Recertify$Grants" "states" "[C" ∈ wsX6_meanRisk := by decide +kernel
  have l230 : Cond.classLink RX6 230 "java/lang/ArithmeticException" ∈ wsX6_meanRisk := by decide +kernel
  have l33 : Cond.fieldLink RX6 33 "Recertify" "grants" "LRecertify$Grants;" ∈ wsX6_meanRisk := by decide +kernel
  refine zg_iconst X (v := 0) dX6_meanRisk_0 (by decide) ?_
  refine zg_istore_n X dX6_meanRisk_1 (by decide) ?_
  refine zg_iconst X (v := 0) dX6_meanRisk_2 (by decide) ?_
  refine zg_istore_n X dX6_meanRisk_3 (by decide) ?_
  refine zg_iconst X (v := 0) dX6_meanRisk_4 (by decide) ?_
  refine zg_istore_n X dX6_meanRisk_5 (by decide) ?_
  have LP6 : ∀ (fu : Nat) (i : Nat) (ac : Nat) (sm : Int32), σ.1 3 + 1 ≤ i + fu → i ≤ σ.1 3 → ac = mrN σ i → sm = mrS σ i → ac ≤ i → zG p l e (headSpec wsX6_meanRisk ({ frames := 6, cells := 1, slots := 6, locals := 114 })).room s m [.ref (ad 0)].toArray below meth c D 4 A 0 0 (vx_MQ below (qD D (zT T) (fun v w => sp_mrk σ = .inr v ∧ w = wC ad T σ) A) (xE D (zT T) (fun E w => sp_mrk σ = .inl E ∧ w = wC ad T σ) A) [.ref (ad 0)].toArray s 1 6 A) (wC ad T σ) 6 [(0, .ref (ad 0)), (1, .int sm), (2, .int (nI ac)), (3, .int (nI i))] [] := by
    intro fu
    induction fu with
    | zero => intro i ac sm hfu hii _ _ _; exact absurd hfu (by omega)
    | succ fu ih6 =>
      intro i ac sm hfu hii hac hsm hle
      refine zg_iload_n X dX6_meanRisk_6 rfl ?_
      refine zg_aload_n X dX6_meanRisk_7 rfl ?_
      refine rg_R_grants X f6 l33 dX6_meanRisk_8 ?_
      refine rg_Grants_count X f2 l173 dX6_meanRisk_11 ?_
      refine zg_icmpn_ge X dX6_meanRisk_14 (tgt := 48) (by decide) (a := i) (b := σ.1 3) (by omega) (by omega) (fun c_14 => ?_) (fun c_14 => ?_)
      · skip
        have hn3 : σ.1 3 = i := by omega
        have ha3 : mrN σ (σ.1 3) = ac := by rw [hn3, hac]
        have hs3 : mrS σ (σ.1 3) = sm := by rw [hn3, hsm]
        refine zg_iload_n X dX6_meanRisk_48 rfl ?_
        refine zg_ifn_ne X dX6_meanRisk_49 (tgt := 62) (by decide) (by omega) (fun c_49 => ?_) (fun c_49 => ?_)
        · skip
          refine zg_iload_n X dX6_meanRisk_62 rfl ?_
          refine zg_i2d X dX6_meanRisk_63 ?_
          refine zg_iload_n X dX6_meanRisk_64 rfl ?_
          refine zg_i2d X dX6_meanRisk_65 ?_
          refine zg_ddiv X (fl_n64 (fl_ddiv (nI_ne0 (show 0 < ac by omega) (show ac < 2 ^ 31 by omega)))) dX6_meanRisk_66 ?_
          exact zg_x (zg_dret X hr dX6_meanRisk_67 (Nat.le_of_ble_eq_true rfl) (Nat.le_of_ble_eq_true rfl) (⟨by rw [sp_mrk, ha3, hs3, if_neg c_49], rfl⟩))
        · skip
          exact zg_throw X hfl (text := "no grant is active") hno tq_X6_234.1 tq_X6_234.2.1 l230 (by decide +kernel) (by decide +kernel) (fun w h => by have h : w ∈ (vx_atS RX6 234 "java/lang/ArithmeticException" ["java/lang/RuntimeException", "java/lang/Exception"]).filter goodWord := h; revert w; decide +kernel) tq_X6_234.2.2.1 (by decide +kernel) tq_X6_234.2.2.2 dX6_meanRisk_52 dX6_meanRisk_55 dX6_meanRisk_56 dX6_meanRisk_58 dX6_meanRisk_61 ⟨Nat.le_of_ble_eq_true rfl, Nat.le_of_ble_eq_true rfl, Nat.le_of_ble_eq_true rfl, Nat.le_of_ble_eq_true rfl⟩ ⟨Nat.le_of_ble_eq_true rfl, Nat.le_of_ble_eq_true rfl⟩ (⟨by rw [sp_mrk, ha3, if_pos c_49], rfl⟩)
      · skip
        refine zg_aload_n X dX6_meanRisk_17 rfl ?_
        refine rg_R_grants X f6 l33 dX6_meanRisk_18 ?_
        refine rg_Grants_states X f2 l186 dX6_meanRisk_21 ?_
        refine zg_iload_n X dX6_meanRisk_24 rfl ?_
        refine rlC_states X (by omega) dX6_meanRisk_25 ?_
        refine zg_bipush X (v := 120) dX6_meanRisk_26 (by decide) ?_
        refine zg_icmp_eq X dX6_meanRisk_28 (tgt := 42) (by decide) (fun c_28 => ?_) (fun c_28 => ?_)
        · skip
          refine zg_iinc1 X dX6_meanRisk_42 (by decide) rfl ?_
          refine zg_goto X dX6_meanRisk_45 (tgt := 6) (by decide) ?_
          exact zg_lv (by exact ⟨rfl, rfl, rfl, rfl, trivial⟩) (ih6 (i + 1) ac sm (by omega) (by omega) (by rw [hac]; exact (if_pos c_28).symm) (by rw [hsm]; exact (if_pos c_28).symm) (Nat.le_succ_of_le hle))
        · skip
          refine zg_iload_n X dX6_meanRisk_31 rfl ?_
          refine zg_aload_n X dX6_meanRisk_32 rfl ?_
          refine zg_iload_n X dX6_meanRisk_33 rfl ?_
          refine zg_callVi X (k_X6_rateGrant l D ad T _ hI i (show i < σ.1 3 by omega)) zFr.rf gX6_meanRisk_X6_rateGrant rfl rfl rfl qv_X6_rateGrant rfl ⟨Nat.le_of_ble_eq_true rfl, Nat.le_of_ble_eq_true rfl⟩ (q0 := 0) (ci := 8) rfl rfl rfl (Nat.le_of_ble_eq_true rfl) ⟨Nat.le_of_ble_eq_true rfl, Nat.le_of_ble_eq_true rfl⟩ dX6_meanRisk_34 (fun r w1 hz9 => ?_)
          obtain ⟨rfl, rfl⟩ := hz9
          refine zg_iadd X dX6_meanRisk_37 ?_
          refine zg_istore_n X dX6_meanRisk_38 (by decide) ?_
          refine zg_iinc1 X dX6_meanRisk_39 (by decide) rfl ?_
          refine zg_iinc1 X dX6_meanRisk_42 (by decide) rfl ?_
          refine zg_goto X dX6_meanRisk_45 (tgt := 6) (by decide) ?_
          exact zg_lv (by exact ⟨rfl, rfl, rfl, rfl, trivial⟩) (ih6 (i + 1) (ac + 1) (sm + rgI σ i) (by omega) (by omega) (by rw [hac]; exact (if_neg c_28).symm) (by rw [hsm]; exact (if_neg c_28).symm) (Nat.succ_le_succ hle))
  exact zg_lv (by exact ⟨rfl, rfl, rfl, rfl, trivial⟩) (LP6 (σ.1 3 + 1) 0 0 _ (by omega) (by omega) rfl rfl (Nat.le_refl 0))

set_option maxHeartbeats 4000000 in
set_option maxRecDepth 100000 in
theorem k_X7_meanRisk (l : Launch) (D : va_G) (ad : Nat → Nat) (T : Nat → ClassId) (σ : ZS) (hI : zI σ) : zM l yX7_meanRisk wsX7_meanRisk ({ frames := 7, cells := 0, slots := 0, locals := 164 }) D (zT T) [.ref (ad 0)] (wM ad T σ) 0 0 (qD D (zT T) (fun v0 w => ∃ t, mF σ (sp_mrk σ) v0 t ∧ w = wM ad T t)) := by
  have hB0 := hI.bd
  obtain ⟨b0, b1, b2, b3, b4, b5⟩ := hI.bd
  refine zg_of (cc := cX7_meanRisk) (maxL := 4) (ret := (some .double)) (by decide) rfl (Nat.le_of_ble_eq_true rfl) (fun p e s m below meth c A hin hr X => ?_)
  have X : zC p s m _ meth c cX7_meanRisk 4 wsX7_meanRisk RX7 D (zT T) A := X
  have f7 : ∀ w ∈ u_ws RX7 TX7 37, w ∈ wsX7_meanRisk := by decide +kernel
  have l105 : Cond.fieldLink RX7 105 "RecertifyModel" "grants" "I" ∈ wsX7_meanRisk := by decide +kernel
  have l56 : Cond.fieldLink RX7 56 "RecertifyModel" "states" "[C" ∈ wsX7_meanRisk := by decide +kernel
  have l85 : Cond.fieldLink RX7 85 "RecertifyModel" "thrown" "I" ∈ wsX7_meanRisk := by decide +kernel
  refine zg_aload_n X dX7_meanRisk_0 rfl ?_
  refine zg_iconst X (v := 0) dX7_meanRisk_1 (by decide) ?_
  refine rp_M_thrown X f7 l85 dX7_meanRisk_2 ?_
  refine zg_iconst X (v := 0) dX7_meanRisk_5 (by decide) ?_
  refine zg_istore_n X dX7_meanRisk_6 (by decide) ?_
  refine zg_iconst X (v := 0) dX7_meanRisk_7 (by decide) ?_
  refine zg_istore_n X dX7_meanRisk_8 (by decide) ?_
  refine zg_iconst X (v := 0) dX7_meanRisk_9 (by decide) ?_
  refine zg_istore_n X dX7_meanRisk_10 (by decide) ?_
  have LP11 : ∀ (fu : Nat) (i : Nat) (ac : Nat) (sm : Int32), σ.1 3 + 1 ≤ i + fu → i ≤ σ.1 3 → ac = mrN σ i → sm = mrS σ i → ac ≤ i → zG p l e (headSpec wsX7_meanRisk ({ frames := 7, cells := 0, slots := 0, locals := 164 })).room s m [.ref (ad 0)].toArray below meth c D 4 A 0 0 (MQ below (qD D (zT T) (fun v0 w => ∃ t, mF σ (sp_mrk σ) v0 t ∧ w = wM ad T t) A) [.ref (ad 0)].toArray s 0 0 A) (wM ad T (uN σ 8 0)) 11 [(0, .ref (ad 0)), (1, .int (nI ac)), (2, .int sm), (3, .int (nI i))] [] := by
    intro fu
    induction fu with
    | zero => intro i ac sm hfu hii _ _ _; exact absurd hfu (by omega)
    | succ fu ih11 =>
      intro i ac sm hfu hii hac hsm hle
      refine zg_iload_n X dX7_meanRisk_11 rfl ?_
      refine zg_aload_n X dX7_meanRisk_12 rfl ?_
      refine rg_M_grants X f7 l105 dX7_meanRisk_13 ?_
      refine zg_icmpn_ge X dX7_meanRisk_16 (tgt := 50) (by decide) (a := i) (b := σ.1 3) (by omega) (by omega) (fun c_16 => ?_) (fun c_16 => ?_)
      · skip
        have hn3 : σ.1 3 = i := by omega
        have ha3 : mrN σ (σ.1 3) = ac := by rw [hn3, hac]
        have hs3 : mrS σ (σ.1 3) = sm := by rw [hn3, hsm]
        refine zg_iload_n X dX7_meanRisk_50 rfl ?_
        refine zg_ifn_ne X dX7_meanRisk_51 (tgt := 61) (by decide) (by omega) (fun c_51 => ?_) (fun c_51 => ?_)
        · skip
          refine zg_iload_n X dX7_meanRisk_61 rfl ?_
          refine zg_i2d X dX7_meanRisk_62 ?_
          refine zg_iload_n X dX7_meanRisk_63 rfl ?_
          refine zg_i2d X dX7_meanRisk_64 ?_
          refine zg_ddiv X (fl_n64 (fl_ddiv (nI_ne0 (show 0 < ac by omega) (show ac < 2 ^ 31 by omega)))) dX7_meanRisk_65 ?_
          exact zg_dret X hr dX7_meanRisk_66 (Nat.le_of_ble_eq_true rfl) (Nat.le_of_ble_eq_true rfl) (⟨uN σ 8 0, Or.inl ⟨by rw [sp_mrk, ha3, hs3, if_neg c_51], ovl_8, rfl, rfl⟩, rfl⟩)
        · skip
          refine zg_aload_n X dX7_meanRisk_54 rfl ?_
          refine zg_iconst X (v := 1) dX7_meanRisk_55 (by decide) ?_
          refine zg_callVi X (k_X7_fails l D ad T (uN σ 8 0) 1) zFr.rf gX7_meanRisk_X7_fails rfl rfl rfl qv_X7_fails rfl ⟨Nat.le_of_ble_eq_true rfl, Nat.le_of_ble_eq_true rfl⟩ (q0 := 0) (ci := 9) rfl rfl rfl (Nat.le_of_ble_eq_true rfl) ⟨Nat.le_of_ble_eq_true rfl, Nat.le_of_ble_eq_true rfl⟩ dX7_meanRisk_56 (fun r w1 hz9 => ?_)
          obtain ⟨rfl, rfl⟩ := hz9
          refine zg_i2d X dX7_meanRisk_59 ?_
          exact zg_dret X hr dX7_meanRisk_60 (Nat.le_of_ble_eq_true rfl) (Nat.le_of_ble_eq_true rfl) (⟨uN (uN σ 8 0) 8 1, Or.inr ⟨by rw [sp_mrk, ha3, if_pos c_51], ovl_tr ovl_8 ovl_8, rfl, rfl⟩, rfl⟩)
      · skip
        refine zg_aload_n X dX7_meanRisk_19 rfl ?_
        refine rg_M_states X f7 l56 dX7_meanRisk_20 ?_
        refine zg_iload_n X dX7_meanRisk_23 rfl ?_
        refine rlM_states X (by omega) dX7_meanRisk_24 ?_
        refine zg_bipush X (v := 120) dX7_meanRisk_25 (by decide) ?_
        refine zg_icmp_ne X dX7_meanRisk_27 (tgt := 33) (by decide) (fun c_27 => ?_) (fun c_27 => ?_)
        · skip
          refine zg_iinc1 X dX7_meanRisk_33 (by decide) rfl ?_
          refine zg_iload_n X dX7_meanRisk_36 rfl ?_
          refine zg_aload_n X dX7_meanRisk_37 rfl ?_
          refine zg_iload_n X dX7_meanRisk_38 rfl ?_
          refine zg_callVi X (k_X7_riskOfGrant l D ad T (uN σ 8 0) hI i (show i < σ.1 3 by omega)) zFr.rf gX7_meanRisk_X7_riskOfGrant rfl rfl rfl qv_X7_riskOfGrant rfl ⟨Nat.le_of_ble_eq_true rfl, Nat.le_of_ble_eq_true rfl⟩ (q0 := 0) (ci := 9) rfl rfl rfl (Nat.le_of_ble_eq_true rfl) ⟨Nat.le_of_ble_eq_true rfl, Nat.le_of_ble_eq_true rfl⟩ dX7_meanRisk_39 (fun r w1 hz9 => ?_)
          obtain ⟨rfl, rfl⟩ := hz9
          refine zg_top (v' := rgI σ i) rfl ?_
          refine zg_iadd X dX7_meanRisk_42 ?_
          refine zg_istore_n X dX7_meanRisk_43 (by decide) ?_
          refine zg_iinc1 X dX7_meanRisk_44 (by decide) rfl ?_
          refine zg_goto X dX7_meanRisk_47 (tgt := 11) (by decide) ?_
          exact zg_lv (by exact ⟨rfl, rfl, rfl, rfl, trivial⟩) (ih11 (i + 1) (ac + 1) (sm + rgI σ i) (by omega) (by omega) (by rw [hac]; exact (if_neg c_27).symm) (by rw [hsm]; exact (if_neg c_27).symm) (Nat.succ_le_succ hle))
        · skip
          refine zg_goto X dX7_meanRisk_30 (tgt := 44) (by decide) ?_
          refine zg_iinc1 X dX7_meanRisk_44 (by decide) rfl ?_
          refine zg_goto X dX7_meanRisk_47 (tgt := 11) (by decide) ?_
          exact zg_lv (by exact ⟨rfl, rfl, rfl, rfl, trivial⟩) (ih11 (i + 1) ac sm (by omega) (by omega) (by rw [hac]; exact (if_pos c_27).symm) (by rw [hsm]; exact (if_pos c_27).symm) (Nat.le_succ_of_le hle))
  exact zg_lv (by exact ⟨rfl, rfl, rfl, rfl, trivial⟩) (LP11 (σ.1 3 + 1) 0 0 _ (by omega) (by omega) rfl rfl (Nat.le_refl 0))
