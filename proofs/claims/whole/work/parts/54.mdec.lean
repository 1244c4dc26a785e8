/-! rows of methods, laid by a program of mine (wip/whole/walk.py) out of the bytecode and annotations -/
theorem qd_X7_decides : yX7_decides.cls ≠ "java/lang/invoke/MethodHandle" ∧ yX7_decides.cls ≠ "java/lang/invoke/VarHandle" ∧ (parseMethodDescriptor yX7_decides.desc).map (fun d => d.parameters.length) = some 3 := by decide +kernel
theorem qv_X7_decides : yX7_decides.cls = RX7 ∧ yX7_decides.cls ≠ "java/lang/invoke/MethodHandle" ∧ yX7_decides.cls ≠ "java/lang/invoke/VarHandle" ∧ (parseMethodDescriptor yX7_decides.desc).map (fun d => d.parameters.length) = some 3 := ⟨rfl, qd_X7_decides⟩
theorem qd_X7_ends : yX7_ends.cls ≠ "java/lang/invoke/MethodHandle" ∧ yX7_ends.cls ≠ "java/lang/invoke/VarHandle" ∧ (parseMethodDescriptor yX7_ends.desc).map (fun d => d.parameters.length) = some 1 := by decide +kernel
theorem qv_X7_ends : yX7_ends.cls = RX7 ∧ yX7_ends.cls ≠ "java/lang/invoke/MethodHandle" ∧ yX7_ends.cls ≠ "java/lang/invoke/VarHandle" ∧ (parseMethodDescriptor yX7_ends.desc).map (fun d => d.parameters.length) = some 1 := ⟨rfl, qd_X7_ends⟩
theorem qd_X7_isBlockedNow : yX7_isBlockedNow.cls ≠ "java/lang/invoke/MethodHandle" ∧ yX7_isBlockedNow.cls ≠ "java/lang/invoke/VarHandle" ∧ (parseMethodDescriptor yX7_isBlockedNow.desc).map (fun d => d.parameters.length) = some 1 := by decide +kernel
theorem qv_X7_isBlockedNow : yX7_isBlockedNow.cls = RX7 ∧ yX7_isBlockedNow.cls ≠ "java/lang/invoke/MethodHandle" ∧ yX7_isBlockedNow.cls ≠ "java/lang/invoke/VarHandle" ∧ (parseMethodDescriptor yX7_isBlockedNow.desc).map (fun d => d.parameters.length) = some 1 := ⟨rfl, qd_X7_isBlockedNow⟩
theorem qd_X7_reviewer : yX7_reviewer.cls ≠ "java/lang/invoke/MethodHandle" ∧ yX7_reviewer.cls ≠ "java/lang/invoke/VarHandle" ∧ (parseMethodDescriptor yX7_reviewer.desc).map (fun d => d.parameters.length) = some 1 := by decide +kernel
theorem qv_X7_reviewer : yX7_reviewer.cls = RX7 ∧ yX7_reviewer.cls ≠ "java/lang/invoke/MethodHandle" ∧ yX7_reviewer.cls ≠ "java/lang/invoke/VarHandle" ∧ (parseMethodDescriptor yX7_reviewer.desc).map (fun d => d.parameters.length) = some 1 := ⟨rfl, qd_X7_reviewer⟩
theorem qd_X7_seals : yX7_seals.cls ≠ "java/lang/invoke/MethodHandle" ∧ yX7_seals.cls ≠ "java/lang/invoke/VarHandle" ∧ (parseMethodDescriptor yX7_seals.desc).map (fun d => d.parameters.length) = some 2 := by decide +kernel
theorem qv_X7_seals : yX7_seals.cls = RX7 ∧ yX7_seals.cls ≠ "java/lang/invoke/MethodHandle" ∧ yX7_seals.cls ≠ "java/lang/invoke/VarHandle" ∧ (parseMethodDescriptor yX7_seals.desc).map (fun d => d.parameters.length) = some 2 := ⟨rfl, qd_X7_seals⟩
theorem qd_X7_standBy : yX7_standBy.cls ≠ "java/lang/invoke/MethodHandle" ∧ yX7_standBy.cls ≠ "java/lang/invoke/VarHandle" ∧ (parseMethodDescriptor yX7_standBy.desc).map (fun d => d.parameters.length) = some 1 := by decide +kernel
theorem qv_X7_standBy : yX7_standBy.cls = RX7 ∧ yX7_standBy.cls ≠ "java/lang/invoke/MethodHandle" ∧ yX7_standBy.cls ≠ "java/lang/invoke/VarHandle" ∧ (parseMethodDescriptor yX7_standBy.desc).map (fun d => d.parameters.length) = some 1 := ⟨rfl, qd_X7_standBy⟩
theorem zg_iincm {p : Program} {l : Launch} {e : Env} {R : Room} {s : State} {m : MethodId} {args : Array Value} {below : List Frame} {meth : Method} {c : Code} {cc : ByteArray} {nL : Nat} {Ts : List Cond} {own : String} {D : va_G} {tys : List (ClassId × FieldType)} {A : Nat → Prop} {cells slots : Nat} {Q : State → Prop} {w : va_W} {pc : Nat} {lv : List (Nat × Value)} {st : List Value} (X : zC p s m args meth c cc nL Ts own D tys A) {i : Nat} {j : Nat} (hdg : decode cc pc = .ok (.iinc i (-1), 3)) (hn : i < nL) (hg : lvG lv i = some (.int (nI j))) (hj : 0 < j) (k : zG p l e R s m args below meth c D nL A cells slots Q w (pc + 3) ((i, Value.int (nI (j - 1))) :: lvD lv i) (st)) : zG p l e R s m args below meth c D nL A cells slots Q w (pc) lv (st) := zg_iinc X hdg hn hg (by
  obtain ⟨q9, rfl⟩ : ∃ q9, j = q9 + 1 := ⟨j - 1, by omega⟩
  exact pk_m1 q9) k
theorem neg_lt_nI {x : Int32} {n : Nat} (hx : x < 0) (hn : n < 2 ^ 31) : x < nI n := by
  rw [Int32.lt_iff_toInt_lt] at hx ⊢
  rw [nI_toInt hn]
  have h0 : (0 : Int32).toInt = 0 := by decide
  omega
theorem nI_neg {x : Int32} {n : Nat} (hx : x < 0) (hn : n < 2 ^ 31) : ¬ nI n = x := fun q => by
  have := neg_lt_nI hx hn
  rw [q, Int32.lt_iff_toInt_lt] at this
  omega
theorem zI_d8 {σ : ZS} (h : zI σ) {g r j : Nat} (hr : r < σ.1 2) (hj : j < σ.1 0) : zI (uA (uA σ 11 (upd (σ.2.2 11) g 120)) 8 (upd (σ.2.2 8) r (σ.2.2 8 r ||| bt1 j))) := by
  obtain ⟨b0, b1, b2, b3, b4, b5⟩ := h.bd
  have hd : ∀ r', r' < 10 → zSm (upd (σ.2.2 8) r (σ.2.2 8 r ||| bt1 j) r') 10 := upd_all (P := fun x => zSm x 10) h.den (zSm_or (h.den r (by omega)) (zSm_bt1 (by omega) (by decide)))
  exact ⟨h.1, h.2.1, h.2.2.1, h.2.2.2.1, h.2.2.2.2.1, h.2.2.2.2.2.1, h.2.2.2.2.2.2.1, h.2.2.2.2.2.2.2.1, h.2.2.2.2.2.2.2.2.1, h.2.2.2.2.2.2.2.2.2.1, hd, h.2.2.2.2.2.2.2.2.2.2.2⟩
set_option maxHeartbeats 4000000 in
set_option maxRecDepth 100000 in
theorem k_X7_standBy (l : Launch) (D : va_G) (ad : Nat → Nat) (T : Nat → ClassId) (σ : ZS) (hI : zI σ) (x : Int32) (hx : zRef x (σ.1 0)) : zM l yX7_standBy wsX7_standBy ({ frames := 1, cells := 0, slots := 0, locals := 21 }) D (zT T) [.ref (ad 0), .int x] (wM ad T σ) 0 0 (qI D (zT T) (fun v0 w => v0 = fpI σ (σ.1 0) x ∧ w = wM ad T (σ))) := by
  have hB0 := hI.bd
  obtain ⟨b0, b1, b2, b3, b4, b5⟩ := hI.bd
  refine zg_of (cc := cX7_standBy) (maxL := 4) (ret := (some .int)) (by decide) rfl (Nat.le_of_ble_eq_true rfl) (fun p e s m below meth c A hin hr X => ?_)
  have X : zC p s m _ meth c cX7_standBy 4 wsX7_standBy RX7 D (zT T) A := X
  have f7 : ∀ w ∈ u_ws RX7 TX7 37, w ∈ wsX7_standBy := by decide +kernel
  have l119 : Cond.fieldLink RX7 119 "RecertifyModel" "absent" "I" ∈ wsX7_standBy := by decide +kernel
  have l16 : Cond.fieldLink RX7 16 "RecertifyModel" "substitutes" "[I" ∈ wsX7_standBy := by decide +kernel
  refine zg_iload_n X dX7_standBy_0 rfl ?_
  refine zg_istore_n X dX7_standBy_1 (by decide) ?_
  refine zg_iconst X (v := 0) dX7_standBy_2 (by decide) ?_
  refine zg_istore_n X dX7_standBy_3 (by decide) ?_
  have LP4 : ∀ (fu : Nat) (i : Nat) (cur : Int32) (S : Int32), σ.1 0 + 1 ≤ i + fu → i ≤ σ.1 0 → sbP σ i cur S → fpI σ (σ.1 0 - i) cur = fpI σ (σ.1 0) x → zG p l e (headSpec wsX7_standBy ({ frames := 1, cells := 0, slots := 0, locals := 21 })).room s m [.ref (ad 0), .int x].toArray below meth c D 4 A 0 0 (MQ below (qI D (zT T) (fun v0 w => v0 = fpI σ (σ.1 0) x ∧ w = wM ad T (σ)) A) [.ref (ad 0), .int x].toArray s 0 0 A) (wM ad T σ) 4 [(0, .ref (ad 0)), (2, .int cur), (3, .int S)] [] := by
    intro fu
    induction fu with
    | zero => intro i cur S hfu hii _ _; exact absurd hfu (by omega)
    | succ fu ih4 =>
      intro i cur S hfu hii hs hq
      refine zg_iload_n X dX7_standBy_4 rfl ?_
      refine zg_iconst X (v := (-1)) dX7_standBy_5 (by decide) ?_
      refine zg_icmp_eq X dX7_standBy_6 (tgt := 46) (by decide) (fun c_6 => ?_) (fun c_6 => ?_)
      · skip
        refine zg_iload_n X dX7_standBy_46 rfl ?_
        exact zg_iret X hr dX7_standBy_47 (Nat.le_of_ble_eq_true rfl) (Nat.le_of_ble_eq_true rfl) (⟨by rw [← hq, c_6, fpI_m1], rfl⟩)
      · skip
        refine zg_aload_n X dX7_standBy_9 rfl ?_
        refine rg_M_absent X f7 l119 dX7_standBy_10 ?_
        refine zg_iload_n X dX7_standBy_13 rfl ?_
        obtain ⟨j, hj, ej⟩ := hs.2.2.2.resolve_left c_6
        subst ej
        refine zg_callSi X (k_X7_has l D ad T _ _ j (by omega)) zFr.rf gX7_standBy_X7_has rfl rfl rfl qd_X7_has rfl ⟨Nat.le_of_ble_eq_true rfl, Nat.le_of_ble_eq_true rfl⟩ rfl (Nat.le_of_ble_eq_true rfl) ⟨Nat.le_of_ble_eq_true rfl, Nat.le_of_ble_eq_true rfl⟩ dX7_standBy_14 (fun r w1 hz9 => ?_)
        obtain ⟨rfl, rfl⟩ := hz9
        refine zg_if_eqb X dX7_standBy_17 (tgt := 46) (by decide) (fun c_17 => ?_) (fun c_17 => ?_)
        · skip
          refine zg_iload_n X dX7_standBy_46 rfl ?_
          exact zg_iret X hr dX7_standBy_47 (Nat.le_of_ble_eq_true rfl) (Nat.le_of_ble_eq_true rfl) (⟨by rw [← hq, sb_here hI (sbP_lt hI hs hj (fun q => c_17 ((hI.abs j hj).mpr (hs.2.1 j (by omega) q).2))) hj (Classical.byContradiction fun q => c_17 ((hI.abs j hj).mpr q))], rfl⟩)
        · skip
          have ha : ¬ σ.2.2 19 j = 0 := (hI.abs j hj).mp c_17
          refine zg_iload_n X dX7_standBy_20 rfl ?_
          refine zg_iload_n X dX7_standBy_21 rfl ?_
          refine zg_callSi X (k_X7_has l D ad T _ _ j (by omega)) zFr.rf gX7_standBy_X7_has rfl rfl rfl qd_X7_has rfl ⟨Nat.le_of_ble_eq_true rfl, Nat.le_of_ble_eq_true rfl⟩ rfl (Nat.le_of_ble_eq_true rfl) ⟨Nat.le_of_ble_eq_true rfl, Nat.le_of_ble_eq_true rfl⟩ dX7_standBy_22 (fun r w1 hz9 => ?_)
          obtain ⟨rfl, rfl⟩ := hz9
          refine zg_if_eqb X dX7_standBy_25 (tgt := 30) (by decide) (fun c_25 => ?_) (fun c_25 => ?_)
          · skip
            have hlt : i < σ.1 0 := sbP_lt hI hs hj c_25
            refine zg_iload_n X dX7_standBy_30 rfl ?_
            refine zg_iconst X (v := 1) dX7_standBy_31 (by decide) ?_
            refine zg_iload_n X dX7_standBy_32 rfl ?_
            refine zg_ishl X dX7_standBy_33 ?_
            refine zg_ior X dX7_standBy_34 ?_
            refine zg_istore_n X dX7_standBy_35 (by decide) ?_
            refine zg_aload_n X dX7_standBy_36 rfl ?_
            refine rg_M_substitutes X f7 l16 dX7_standBy_37 ?_
            refine zg_iload_n X dX7_standBy_40 rfl ?_
            refine rlM_substitutes X (by omega) dX7_standBy_41 ?_
            refine zg_istore_n X dX7_standBy_42 (by decide) ?_
            refine zg_goto X dX7_standBy_43 (tgt := 4) (by decide) ?_
            exact zg_lv (by exact ⟨rfl, rfl, rfl, trivial⟩) (ih4 (i + 1) _ _ (by omega) (by omega) (sbP_s hI hs hj ha c_25) (by rw [sb_step hI hlt hj ha]; exact hq))
          · skip
            refine zg_iconst X (v := (-1)) dX7_standBy_28 (by decide) ?_
            exact zg_iret X hr dX7_standBy_29 (Nat.le_of_ble_eq_true rfl) (Nat.le_of_ble_eq_true rfl) (⟨by rw [← hq, sb_loop hI hs hj c_25 _ j hj c_25], rfl⟩)
  exact zg_lv (by exact ⟨rfl, rfl, rfl, trivial⟩) (LP4 (σ.1 0 + 1) 0 x 0 (by omega) (by omega) (sbP_0 hI hx) rfl)

set_option maxHeartbeats 4000000 in
set_option maxRecDepth 100000 in
theorem k_X7_reviewer (l : Launch) (D : va_G) (ad : Nat → Nat) (T : Nat → ClassId) (σ : ZS) (hI : zI σ) (g : Nat) (hg : g < σ.1 3) : zM l yX7_reviewer wsX7_reviewer ({ frames := 2, cells := 0, slots := 0, locals := 44 }) D (zT T) [.ref (ad 0), .int (nI g)] (wM ad T σ) 0 0 (qI D (zT T) (fun v0 w => v0 = revI σ g ∧ w = wM ad T (σ))) := by
  have hB0 := hI.bd
  obtain ⟨b0, b1, b2, b3, b4, b5⟩ := hI.bd
  obtain ⟨r0, hr0, er⟩ := hI.gRt g hg
  have hro := hI.rOw r0 hr0
  refine zg_of (cc := cX7_reviewer) (maxL := 7) (ret := (some .int)) (by decide) rfl (Nat.le_of_ble_eq_true rfl) (fun p e s m below meth c A hin hr X => ?_)
  have X : zC p s m _ meth c cX7_reviewer 7 wsX7_reviewer RX7 D (zT T) A := X
  have f7 : ∀ w ∈ u_ws RX7 TX7 37, w ∈ wsX7_reviewer := by decide +kernel
  have l13 : Cond.fieldLink RX7 13 "RecertifyModel" "managers" "[I" ∈ wsX7_reviewer := by decide +kernel
  have l19 : Cond.fieldLink RX7 19 "RecertifyModel" "groupOwners" "[I" ∈ wsX7_reviewer := by decide +kernel
  have l31 : Cond.fieldLink RX7 31 "RecertifyModel" "rightOwners" "[I" ∈ wsX7_reviewer := by decide +kernel
  have l37 : Cond.fieldLink RX7 37 "RecertifyModel" "rightOf" "[I" ∈ wsX7_reviewer := by decide +kernel
  have l40 : Cond.fieldLink RX7 40 "RecertifyModel" "targets" "[I" ∈ wsX7_reviewer := by decide +kernel
  have l53 : Cond.fieldLink RX7 53 "RecertifyModel" "isToGroup" "[Z" ∈ wsX7_reviewer := by decide +kernel
  have l92 : Cond.fieldLink RX7 92 "RecertifyModel" "people" "I" ∈ wsX7_reviewer := by decide +kernel
  refine zg_aload_n X dX7_reviewer_0 rfl ?_
  refine rg_M_isToGroup X f7 l53 dX7_reviewer_1 ?_
  refine zg_iload_n X dX7_reviewer_4 rfl ?_
  refine rlM_isToGroup X (by omega) dX7_reviewer_5 ?_
  refine zg_if_eq X dX7_reviewer_6 (tgt := 13) (by decide) (fun c_6 => ?_) (fun c_6 => ?_)
  · skip
    refine zg_aload_n X dX7_reviewer_13 rfl ?_
    refine rg_M_targets X f7 l40 dX7_reviewer_14 ?_
    refine zg_iload_n X dX7_reviewer_17 rfl ?_
    refine rlM_targets X (by omega) dX7_reviewer_18 ?_
    refine zg_top (v' := σ.2.2 21 g) (by first | (obtain ⟨j, hj, e21, e25⟩ := hI.mper g hg c_6; exact (e25.trans e21.symm)) | (obtain ⟨j, hj, e21, e22, e25⟩ := hI.mgrp g hg c_6; exact e21.symm)) ?_
    refine zg_istore_n X dX7_reviewer_19 (by decide) ?_
    refine zg_aload_n X dX7_reviewer_20 rfl ?_
    refine rg_M_isToGroup X f7 l53 dX7_reviewer_21 ?_
    refine zg_iload_n X dX7_reviewer_24 rfl ?_
    refine rlM_isToGroup X (by omega) dX7_reviewer_25 ?_
    refine zg_if_eq X dX7_reviewer_26 (tgt := 43) (by decide) (fun c_26 => ?_) (fun c_26 => absurd c_6 c_26)
    refine zg_aload_n X dX7_reviewer_43 rfl ?_
    obtain ⟨j, hj, e21, e25⟩ := hI.mper g hg c_26
    refine rg_M_managers X f7 l13 dX7_reviewer_44 ?_
    refine zg_aload_n X dX7_reviewer_47 rfl ?_
    refine rg_M_targets X f7 l40 dX7_reviewer_48 ?_
    refine zg_iload_n X dX7_reviewer_51 rfl ?_
    refine rlM_targets X (by omega) dX7_reviewer_52 ?_
    refine zg_top e25 ?_
    refine rlM_managers X (by omega) dX7_reviewer_53 ?_
    refine zg_top (v' := closeI σ g) (by first | (rw [closeI, if_pos e21, e22, if_pos (pIn_nI (by omega) hj), ix_nI (by omega)]) | (rw [closeI, if_neg (by rw [e21]; exact nI_m1 (by omega)), e21, ix_nI (by omega)])) ?_
    have hcl : zRef (closeI σ g) (σ.1 0) := by first | (rw [closeI, if_pos e21, e22, if_pos (pIn_nI (by omega) hj), ix_nI (by omega)]; exact Or.inr (hI.gOw j hj)) | (rw [closeI, if_neg (by rw [e21]; exact nI_m1 (by omega)), e21, ix_nI (by omega)]; exact hI.mgr j hj)
    refine zg_istore_n X dX7_reviewer_54 (by decide) ?_
    refine zg_bipush X (v := (-2)) dX7_reviewer_55 (by decide) ?_
    refine zg_istore X dX7_reviewer_57 (by decide) ?_
    refine zg_iload X dX7_reviewer_59 rfl ?_
    refine zg_aload_n X dX7_reviewer_61 rfl ?_
    refine rg_M_people X f7 l92 dX7_reviewer_62 ?_
    refine zg_icmp_ge X dX7_reviewer_65 (tgt := 142) (by decide) (fun c_65 => absurd c_65 (by rw [← zi_lt]; exact neg_lt_nI (by decide) (by omega))) (fun c_65 => ?_)
    refine zg_iload X dX7_reviewer_68 rfl ?_
    refine zg_bipush X (v := (-2)) dX7_reviewer_70 (by decide) ?_
    refine zg_icmp_ne X dX7_reviewer_72 (tgt := 79) (by decide) (fun q => absurd q (by decide)) (fun _ => ?_)
    refine zg_iload_n X dX7_reviewer_75 rfl ?_
    refine zg_goto X dX7_reviewer_76 (tgt := 101) (by decide) ?_
    refine zg_istore X dX7_reviewer_101 (by decide) ?_
    refine zg_iload X dX7_reviewer_103 rfl ?_
    refine zg_iconst X (v := (-1)) dX7_reviewer_105 (by decide) ?_
    refine zg_icmp_ne X dX7_reviewer_106 (tgt := 113) (by decide) (fun c_106 => ?_) (fun c_106 => ?_)
    · skip
      refine zg_aload_n X dX7_reviewer_113 rfl ?_
      refine zg_iload X dX7_reviewer_114 rfl ?_
      refine zg_callVi X (k_X7_standBy l D ad T _ hI _ hcl) zFr.rf gX7_reviewer_X7_standBy rfl rfl rfl qv_X7_standBy rfl ⟨Nat.le_of_ble_eq_true rfl, Nat.le_of_ble_eq_true rfl⟩ (q0 := 0) (ci := 9) rfl rfl rfl (Nat.le_of_ble_eq_true rfl) ⟨Nat.le_of_ble_eq_true rfl, Nat.le_of_ble_eq_true rfl⟩ dX7_reviewer_116 (fun r w1 hz9 => ?_)
      obtain ⟨rfl, rfl⟩ := hz9
      skip
      refine zg_istore X dX7_reviewer_119 (by decide) ?_
      refine zg_iload X dX7_reviewer_121 rfl ?_
      refine zg_iconst X (v := (-1)) dX7_reviewer_123 (by decide) ?_
      refine zg_icmp_eq X dX7_reviewer_124 (tgt := 136) (by decide) (fun c_124 => ?_) (fun c_124 => ?_)
      · skip
        have n1 : ¬ revOk (fpI σ (σ.1 0) (closeI σ g)) (σ.2.2 21 g) := fun q => q.1 c_124
        refine zg_iinc X (v := (-1)) dX7_reviewer_136 (by decide) rfl (by decide) ?_
        refine zg_goto X dX7_reviewer_139 (tgt := 59) (by decide) ?_
        refine zg_iload X dX7_reviewer_59 rfl ?_
        refine zg_aload_n X dX7_reviewer_61 rfl ?_
        refine rg_M_people X f7 l92 dX7_reviewer_62 ?_
        refine zg_icmp_ge X dX7_reviewer_65 (tgt := 142) (by decide) (fun c_65 => absurd c_65 (by rw [← zi_lt]; exact neg_lt_nI (by decide) (by omega))) (fun c_65 => ?_)
        refine zg_iload X dX7_reviewer_68 rfl ?_
        refine zg_bipush X (v := (-2)) dX7_reviewer_70 (by decide) ?_
        refine zg_icmp_ne X dX7_reviewer_72 (tgt := 79) (by decide) (fun _ => ?_) (fun q => absurd q (by decide))
        refine zg_iload X dX7_reviewer_79 rfl ?_
        refine zg_iconst X (v := (-1)) dX7_reviewer_81 (by decide) ?_
        refine zg_icmp_ne X dX7_reviewer_82 (tgt := 99) (by decide) (fun q => absurd q (by decide)) (fun _ => ?_)
        refine zg_aload_n X dX7_reviewer_85 rfl ?_
        refine rg_M_rightOwners X f7 l31 dX7_reviewer_86 ?_
        refine zg_aload_n X dX7_reviewer_89 rfl ?_
        refine rg_M_rightOf X f7 l37 dX7_reviewer_90 ?_
        refine zg_iload_n X dX7_reviewer_93 rfl ?_
        refine rlM_gRight X (by omega) dX7_reviewer_94 ?_
        refine zg_top er ?_
        refine rlM_rOwners X (by omega) dX7_reviewer_95 ?_
        refine zg_goto X dX7_reviewer_96 (tgt := 101) (by decide) ?_
        refine zg_istore X dX7_reviewer_101 (by decide) ?_
        refine zg_iload X dX7_reviewer_103 rfl ?_
        refine zg_iconst X (v := (-1)) dX7_reviewer_105 (by decide) ?_
        refine zg_icmp_ne X dX7_reviewer_106 (tgt := 113) (by decide) (fun c_106 => ?_) (fun c_106 => absurd c_106 (by obtain ⟨j9, hj9, e9⟩ := hro; rw [e9]; exact nI_m1 (by omega)))
        refine zg_aload_n X dX7_reviewer_113 rfl ?_
        refine zg_iload X dX7_reviewer_114 rfl ?_
        refine zg_callVi X (k_X7_standBy l D ad T _ hI _ (Or.inr hro)) zFr.rf gX7_reviewer_X7_standBy rfl rfl rfl qv_X7_standBy rfl ⟨Nat.le_of_ble_eq_true rfl, Nat.le_of_ble_eq_true rfl⟩ (q0 := 0) (ci := 9) rfl rfl rfl (Nat.le_of_ble_eq_true rfl) ⟨Nat.le_of_ble_eq_true rfl, Nat.le_of_ble_eq_true rfl⟩ dX7_reviewer_116 (fun r w1 hz9 => ?_)
        obtain ⟨rfl, rfl⟩ := hz9
        skip
        refine zg_istore X dX7_reviewer_119 (by decide) ?_
        refine zg_iload X dX7_reviewer_121 rfl ?_
        refine zg_iconst X (v := (-1)) dX7_reviewer_123 (by decide) ?_
        refine zg_icmp_eq X dX7_reviewer_124 (tgt := 136) (by decide) (fun c_124 => ?_) (fun c_124 => ?_)
        · skip
          have n2 : ¬ revOk (fpI σ (σ.1 0) (σ.2.2 7 r0)) (σ.2.2 21 g) := fun q => q.1 c_124
          refine zg_iinc X (v := 0) dX7_reviewer_136 (by decide) rfl (by decide) ?_
          refine zg_goto X dX7_reviewer_139 (tgt := 59) (by decide) ?_
          have LP59 : ∀ (fu : Nat) (i : Nat), σ.1 0 + 1 ≤ i + fu → i ≤ σ.1 0 → (∀ a, a < i → ¬ revOk (fpI σ (σ.1 0) (nI a)) (σ.2.2 21 g)) → zG p l e (headSpec wsX7_reviewer ({ frames := 2, cells := 0, slots := 0, locals := 44 })).room s m [.ref (ad 0), .int (nI g)].toArray below meth c D 7 A 0 0 (MQ below (qI D (zT T) (fun v0 w => v0 = revI σ g ∧ w = wM ad T (σ)) A) [.ref (ad 0), .int (nI g)].toArray s 0 0 A) (wM ad T σ) 59 [(0, .ref (ad 0)), (1, .int (nI g)), (2, .int (σ.2.2 21 g)), (3, .int (closeI σ g)), (4, .int (nI i))] [] := by
            intro fu
            induction fu with
            | zero => intro i hfu hii _; exact absurd hfu (by omega)
            | succ fu ih59 =>
              intro i hfu hii hq
              refine zg_iload X dX7_reviewer_59 rfl ?_
              refine zg_aload_n X dX7_reviewer_61 rfl ?_
              refine rg_M_people X f7 l92 dX7_reviewer_62 ?_
              refine zg_icmpn_ge X dX7_reviewer_65 (tgt := 142) (by decide) (a := i) (b := σ.1 0) (by omega) (by omega) (fun c_65 => ?_) (fun c_65 => ?_)
              · skip
                refine zg_iconst X (v := (-1)) dX7_reviewer_142 (by decide) ?_
                exact zg_iret X hr dX7_reviewer_143 (Nat.le_of_ble_eq_true rfl) (Nat.le_of_ble_eq_true rfl) (⟨by rw [revI, if_neg n1, er, ix_nI (by omega), if_neg n2, revL_none (fun a ha => hq a (by omega))], rfl⟩)
              · skip
                refine zg_iload X dX7_reviewer_68 rfl ?_
                refine zg_bipush X (v := (-2)) dX7_reviewer_70 (by decide) ?_
                refine zg_icmp_ne X dX7_reviewer_72 (tgt := 79) (by decide) (fun c_72 => ?_) (fun c_72 => absurd c_72 (nI_neg (by decide) (by omega)))
                refine zg_iload X dX7_reviewer_79 rfl ?_
                refine zg_iconst X (v := (-1)) dX7_reviewer_81 (by decide) ?_
                refine zg_icmp_ne X dX7_reviewer_82 (tgt := 99) (by decide) (fun c_82 => ?_) (fun c_82 => absurd c_82 (nI_m1 (by omega)))
                refine zg_iload X dX7_reviewer_99 rfl ?_
                refine zg_istore X dX7_reviewer_101 (by decide) ?_
                refine zg_iload X dX7_reviewer_103 rfl ?_
                refine zg_iconst X (v := (-1)) dX7_reviewer_105 (by decide) ?_
                refine zg_icmp_ne X dX7_reviewer_106 (tgt := 113) (by decide) (fun c_106 => ?_) (fun c_106 => absurd c_106 (nI_m1 (by omega)))
                refine zg_aload_n X dX7_reviewer_113 rfl ?_
                refine zg_iload X dX7_reviewer_114 rfl ?_
                refine zg_callVi X (k_X7_standBy l D ad T _ hI _ (Or.inr ⟨i, by omega, rfl⟩)) zFr.rf gX7_reviewer_X7_standBy rfl rfl rfl qv_X7_standBy rfl ⟨Nat.le_of_ble_eq_true rfl, Nat.le_of_ble_eq_true rfl⟩ (q0 := 0) (ci := 9) rfl rfl rfl (Nat.le_of_ble_eq_true rfl) ⟨Nat.le_of_ble_eq_true rfl, Nat.le_of_ble_eq_true rfl⟩ dX7_reviewer_116 (fun r w1 hz9 => ?_)
                obtain ⟨rfl, rfl⟩ := hz9
                skip
                refine zg_istore X dX7_reviewer_119 (by decide) ?_
                refine zg_iload X dX7_reviewer_121 rfl ?_
                refine zg_iconst X (v := (-1)) dX7_reviewer_123 (by decide) ?_
                refine zg_icmp_eq X dX7_reviewer_124 (tgt := 136) (by decide) (fun c_124 => ?_) (fun c_124 => ?_)
                · skip
                  skip
                  refine zg_iinc1 X dX7_reviewer_136 (by decide) rfl ?_
                  refine zg_goto X dX7_reviewer_139 (tgt := 59) (by decide) ?_
                  exact zg_lv (by exact ⟨rfl, rfl, rfl, rfl, rfl, trivial⟩) (ih59 (i + 1) (by omega) (by omega) (lt_s hq (fun h => h.1 c_124)))
                · skip
                  refine zg_iload X dX7_reviewer_127 rfl ?_
                  refine zg_iload_n X dX7_reviewer_129 rfl ?_
                  refine zg_icmp_eq X dX7_reviewer_130 (tgt := 136) (by decide) (fun c_130 => ?_) (fun c_130 => ?_)
                  · skip
                    skip
                    refine zg_iinc1 X dX7_reviewer_136 (by decide) rfl ?_
                    refine zg_goto X dX7_reviewer_139 (tgt := 59) (by decide) ?_
                    exact zg_lv (by exact ⟨rfl, rfl, rfl, rfl, rfl, trivial⟩) (ih59 (i + 1) (by omega) (by omega) (lt_s hq (fun h => h.2 c_130)))
                  · skip
                    refine zg_iload X dX7_reviewer_133 rfl ?_
                    exact zg_iret X hr dX7_reviewer_135 (Nat.le_of_ble_eq_true rfl) (Nat.le_of_ble_eq_true rfl) (⟨by rw [revI, if_neg n1, er, ix_nI (by omega), if_neg n2, revL_some (by omega) ⟨c_124, c_130⟩ hq], rfl⟩)
          exact zg_lv (by exact ⟨rfl, rfl, rfl, rfl, rfl, trivial⟩) (LP59 (σ.1 0 + 1) 0 (by omega) (by omega) (fun a ha => absurd ha (Nat.not_lt_zero a)))
        · skip
          refine zg_iload X dX7_reviewer_127 rfl ?_
          refine zg_iload_n X dX7_reviewer_129 rfl ?_
          refine zg_icmp_eq X dX7_reviewer_130 (tgt := 136) (by decide) (fun c_130 => ?_) (fun c_130 => ?_)
          · skip
            have n2 : ¬ revOk (fpI σ (σ.1 0) (σ.2.2 7 r0)) (σ.2.2 21 g) := fun q => q.2 c_130
            refine zg_iinc X (v := 0) dX7_reviewer_136 (by decide) rfl (by decide) ?_
            refine zg_goto X dX7_reviewer_139 (tgt := 59) (by decide) ?_
            have LP59 : ∀ (fu : Nat) (i : Nat), σ.1 0 + 1 ≤ i + fu → i ≤ σ.1 0 → (∀ a, a < i → ¬ revOk (fpI σ (σ.1 0) (nI a)) (σ.2.2 21 g)) → zG p l e (headSpec wsX7_reviewer ({ frames := 2, cells := 0, slots := 0, locals := 44 })).room s m [.ref (ad 0), .int (nI g)].toArray below meth c D 7 A 0 0 (MQ below (qI D (zT T) (fun v0 w => v0 = revI σ g ∧ w = wM ad T (σ)) A) [.ref (ad 0), .int (nI g)].toArray s 0 0 A) (wM ad T σ) 59 [(0, .ref (ad 0)), (1, .int (nI g)), (2, .int (σ.2.2 21 g)), (3, .int (closeI σ g)), (4, .int (nI i))] [] := by
              intro fu
              induction fu with
              | zero => intro i hfu hii _; exact absurd hfu (by omega)
              | succ fu ih59 =>
                intro i hfu hii hq
                refine zg_iload X dX7_reviewer_59 rfl ?_
                refine zg_aload_n X dX7_reviewer_61 rfl ?_
                refine rg_M_people X f7 l92 dX7_reviewer_62 ?_
                refine zg_icmpn_ge X dX7_reviewer_65 (tgt := 142) (by decide) (a := i) (b := σ.1 0) (by omega) (by omega) (fun c_65 => ?_) (fun c_65 => ?_)
                · skip
                  refine zg_iconst X (v := (-1)) dX7_reviewer_142 (by decide) ?_
                  exact zg_iret X hr dX7_reviewer_143 (Nat.le_of_ble_eq_true rfl) (Nat.le_of_ble_eq_true rfl) (⟨by rw [revI, if_neg n1, er, ix_nI (by omega), if_neg n2, revL_none (fun a ha => hq a (by omega))], rfl⟩)
                · skip
                  refine zg_iload X dX7_reviewer_68 rfl ?_
                  refine zg_bipush X (v := (-2)) dX7_reviewer_70 (by decide) ?_
                  refine zg_icmp_ne X dX7_reviewer_72 (tgt := 79) (by decide) (fun c_72 => ?_) (fun c_72 => absurd c_72 (nI_neg (by decide) (by omega)))
                  refine zg_iload X dX7_reviewer_79 rfl ?_
                  refine zg_iconst X (v := (-1)) dX7_reviewer_81 (by decide) ?_
                  refine zg_icmp_ne X dX7_reviewer_82 (tgt := 99) (by decide) (fun c_82 => ?_) (fun c_82 => absurd c_82 (nI_m1 (by omega)))
                  refine zg_iload X dX7_reviewer_99 rfl ?_
                  refine zg_istore X dX7_reviewer_101 (by decide) ?_
                  refine zg_iload X dX7_reviewer_103 rfl ?_
                  refine zg_iconst X (v := (-1)) dX7_reviewer_105 (by decide) ?_
                  refine zg_icmp_ne X dX7_reviewer_106 (tgt := 113) (by decide) (fun c_106 => ?_) (fun c_106 => absurd c_106 (nI_m1 (by omega)))
                  refine zg_aload_n X dX7_reviewer_113 rfl ?_
                  refine zg_iload X dX7_reviewer_114 rfl ?_
                  refine zg_callVi X (k_X7_standBy l D ad T _ hI _ (Or.inr ⟨i, by omega, rfl⟩)) zFr.rf gX7_reviewer_X7_standBy rfl rfl rfl qv_X7_standBy rfl ⟨Nat.le_of_ble_eq_true rfl, Nat.le_of_ble_eq_true rfl⟩ (q0 := 0) (ci := 9) rfl rfl rfl (Nat.le_of_ble_eq_true rfl) ⟨Nat.le_of_ble_eq_true rfl, Nat.le_of_ble_eq_true rfl⟩ dX7_reviewer_116 (fun r w1 hz9 => ?_)
                  obtain ⟨rfl, rfl⟩ := hz9
                  skip
                  refine zg_istore X dX7_reviewer_119 (by decide) ?_
                  refine zg_iload X dX7_reviewer_121 rfl ?_
                  refine zg_iconst X (v := (-1)) dX7_reviewer_123 (by decide) ?_
                  refine zg_icmp_eq X dX7_reviewer_124 (tgt := 136) (by decide) (fun c_124 => ?_) (fun c_124 => ?_)
                  · skip
                    skip
                    refine zg_iinc1 X dX7_reviewer_136 (by decide) rfl ?_
                    refine zg_goto X dX7_reviewer_139 (tgt := 59) (by decide) ?_
                    exact zg_lv (by exact ⟨rfl, rfl, rfl, rfl, rfl, trivial⟩) (ih59 (i + 1) (by omega) (by omega) (lt_s hq (fun h => h.1 c_124)))
                  · skip
                    refine zg_iload X dX7_reviewer_127 rfl ?_
                    refine zg_iload_n X dX7_reviewer_129 rfl ?_
                    refine zg_icmp_eq X dX7_reviewer_130 (tgt := 136) (by decide) (fun c_130 => ?_) (fun c_130 => ?_)
                    · skip
                      skip
                      refine zg_iinc1 X dX7_reviewer_136 (by decide) rfl ?_
                      refine zg_goto X dX7_reviewer_139 (tgt := 59) (by decide) ?_
                      exact zg_lv (by exact ⟨rfl, rfl, rfl, rfl, rfl, trivial⟩) (ih59 (i + 1) (by omega) (by omega) (lt_s hq (fun h => h.2 c_130)))
                    · skip
                      refine zg_iload X dX7_reviewer_133 rfl ?_
                      exact zg_iret X hr dX7_reviewer_135 (Nat.le_of_ble_eq_true rfl) (Nat.le_of_ble_eq_true rfl) (⟨by rw [revI, if_neg n1, er, ix_nI (by omega), if_neg n2, revL_some (by omega) ⟨c_124, c_130⟩ hq], rfl⟩)
            exact zg_lv (by exact ⟨rfl, rfl, rfl, rfl, rfl, trivial⟩) (LP59 (σ.1 0 + 1) 0 (by omega) (by omega) (fun a ha => absurd ha (Nat.not_lt_zero a)))
          · skip
            refine zg_iload X dX7_reviewer_133 rfl ?_
            exact zg_iret X hr dX7_reviewer_135 (Nat.le_of_ble_eq_true rfl) (Nat.le_of_ble_eq_true rfl) (⟨by rw [revI, if_neg n1, er, ix_nI (by omega), if_pos ⟨c_124, c_130⟩], rfl⟩)
      · skip
        refine zg_iload X dX7_reviewer_127 rfl ?_
        refine zg_iload_n X dX7_reviewer_129 rfl ?_
        refine zg_icmp_eq X dX7_reviewer_130 (tgt := 136) (by decide) (fun c_130 => ?_) (fun c_130 => ?_)
        · skip
          have n1 : ¬ revOk (fpI σ (σ.1 0) (closeI σ g)) (σ.2.2 21 g) := fun q => q.2 c_130
          refine zg_iinc X (v := (-1)) dX7_reviewer_136 (by decide) rfl (by decide) ?_
          refine zg_goto X dX7_reviewer_139 (tgt := 59) (by decide) ?_
          refine zg_iload X dX7_reviewer_59 rfl ?_
          refine zg_aload_n X dX7_reviewer_61 rfl ?_
          refine rg_M_people X f7 l92 dX7_reviewer_62 ?_
          refine zg_icmp_ge X dX7_reviewer_65 (tgt := 142) (by decide) (fun c_65 => absurd c_65 (by rw [← zi_lt]; exact neg_lt_nI (by decide) (by omega))) (fun c_65 => ?_)
          refine zg_iload X dX7_reviewer_68 rfl ?_
          refine zg_bipush X (v := (-2)) dX7_reviewer_70 (by decide) ?_
          refine zg_icmp_ne X dX7_reviewer_72 (tgt := 79) (by decide) (fun _ => ?_) (fun q => absurd q (by decide))
          refine zg_iload X dX7_reviewer_79 rfl ?_
          refine zg_iconst X (v := (-1)) dX7_reviewer_81 (by decide) ?_
          refine zg_icmp_ne X dX7_reviewer_82 (tgt := 99) (by decide) (fun q => absurd q (by decide)) (fun _ => ?_)
          refine zg_aload_n X dX7_reviewer_85 rfl ?_
          refine rg_M_rightOwners X f7 l31 dX7_reviewer_86 ?_
          refine zg_aload_n X dX7_reviewer_89 rfl ?_
          refine rg_M_rightOf X f7 l37 dX7_reviewer_90 ?_
          refine zg_iload_n X dX7_reviewer_93 rfl ?_
          refine rlM_gRight X (by omega) dX7_reviewer_94 ?_
          refine zg_top er ?_
          refine rlM_rOwners X (by omega) dX7_reviewer_95 ?_
          refine zg_goto X dX7_reviewer_96 (tgt := 101) (by decide) ?_
          refine zg_istore X dX7_reviewer_101 (by decide) ?_
          refine zg_iload X dX7_reviewer_103 rfl ?_
          refine zg_iconst X (v := (-1)) dX7_reviewer_105 (by decide) ?_
          refine zg_icmp_ne X dX7_reviewer_106 (tgt := 113) (by decide) (fun c_106 => ?_) (fun c_106 => absurd c_106 (by obtain ⟨j9, hj9, e9⟩ := hro; rw [e9]; exact nI_m1 (by omega)))
          refine zg_aload_n X dX7_reviewer_113 rfl ?_
          refine zg_iload X dX7_reviewer_114 rfl ?_
          refine zg_callVi X (k_X7_standBy l D ad T _ hI _ (Or.inr hro)) zFr.rf gX7_reviewer_X7_standBy rfl rfl rfl qv_X7_standBy rfl ⟨Nat.le_of_ble_eq_true rfl, Nat.le_of_ble_eq_true rfl⟩ (q0 := 0) (ci := 9) rfl rfl rfl (Nat.le_of_ble_eq_true rfl) ⟨Nat.le_of_ble_eq_true rfl, Nat.le_of_ble_eq_true rfl⟩ dX7_reviewer_116 (fun r w1 hz9 => ?_)
          obtain ⟨rfl, rfl⟩ := hz9
          skip
          refine zg_istore X dX7_reviewer_119 (by decide) ?_
          refine zg_iload X dX7_reviewer_121 rfl ?_
          refine zg_iconst X (v := (-1)) dX7_reviewer_123 (by decide) ?_
          refine zg_icmp_eq X dX7_reviewer_124 (tgt := 136) (by decide) (fun c_124 => ?_) (fun c_124 => ?_)
          · skip
            have n2 : ¬ revOk (fpI σ (σ.1 0) (σ.2.2 7 r0)) (σ.2.2 21 g) := fun q => q.1 c_124
            refine zg_iinc X (v := 0) dX7_reviewer_136 (by decide) rfl (by decide) ?_
            refine zg_goto X dX7_reviewer_139 (tgt := 59) (by decide) ?_
            have LP59 : ∀ (fu : Nat) (i : Nat), σ.1 0 + 1 ≤ i + fu → i ≤ σ.1 0 → (∀ a, a < i → ¬ revOk (fpI σ (σ.1 0) (nI a)) (σ.2.2 21 g)) → zG p l e (headSpec wsX7_reviewer ({ frames := 2, cells := 0, slots := 0, locals := 44 })).room s m [.ref (ad 0), .int (nI g)].toArray below meth c D 7 A 0 0 (MQ below (qI D (zT T) (fun v0 w => v0 = revI σ g ∧ w = wM ad T (σ)) A) [.ref (ad 0), .int (nI g)].toArray s 0 0 A) (wM ad T σ) 59 [(0, .ref (ad 0)), (1, .int (nI g)), (2, .int (σ.2.2 21 g)), (3, .int (closeI σ g)), (4, .int (nI i))] [] := by
              intro fu
              induction fu with
              | zero => intro i hfu hii _; exact absurd hfu (by omega)
              | succ fu ih59 =>
                intro i hfu hii hq
                refine zg_iload X dX7_reviewer_59 rfl ?_
                refine zg_aload_n X dX7_reviewer_61 rfl ?_
                refine rg_M_people X f7 l92 dX7_reviewer_62 ?_
                refine zg_icmpn_ge X dX7_reviewer_65 (tgt := 142) (by decide) (a := i) (b := σ.1 0) (by omega) (by omega) (fun c_65 => ?_) (fun c_65 => ?_)
                · skip
                  refine zg_iconst X (v := (-1)) dX7_reviewer_142 (by decide) ?_
                  exact zg_iret X hr dX7_reviewer_143 (Nat.le_of_ble_eq_true rfl) (Nat.le_of_ble_eq_true rfl) (⟨by rw [revI, if_neg n1, er, ix_nI (by omega), if_neg n2, revL_none (fun a ha => hq a (by omega))], rfl⟩)
                · skip
                  refine zg_iload X dX7_reviewer_68 rfl ?_
                  refine zg_bipush X (v := (-2)) dX7_reviewer_70 (by decide) ?_
                  refine zg_icmp_ne X dX7_reviewer_72 (tgt := 79) (by decide) (fun c_72 => ?_) (fun c_72 => absurd c_72 (nI_neg (by decide) (by omega)))
                  refine zg_iload X dX7_reviewer_79 rfl ?_
                  refine zg_iconst X (v := (-1)) dX7_reviewer_81 (by decide) ?_
                  refine zg_icmp_ne X dX7_reviewer_82 (tgt := 99) (by decide) (fun c_82 => ?_) (fun c_82 => absurd c_82 (nI_m1 (by omega)))
                  refine zg_iload X dX7_reviewer_99 rfl ?_
                  refine zg_istore X dX7_reviewer_101 (by decide) ?_
                  refine zg_iload X dX7_reviewer_103 rfl ?_
                  refine zg_iconst X (v := (-1)) dX7_reviewer_105 (by decide) ?_
                  refine zg_icmp_ne X dX7_reviewer_106 (tgt := 113) (by decide) (fun c_106 => ?_) (fun c_106 => absurd c_106 (nI_m1 (by omega)))
                  refine zg_aload_n X dX7_reviewer_113 rfl ?_
                  refine zg_iload X dX7_reviewer_114 rfl ?_
                  refine zg_callVi X (k_X7_standBy l D ad T _ hI _ (Or.inr ⟨i, by omega, rfl⟩)) zFr.rf gX7_reviewer_X7_standBy rfl rfl rfl qv_X7_standBy rfl ⟨Nat.le_of_ble_eq_true rfl, Nat.le_of_ble_eq_true rfl⟩ (q0 := 0) (ci := 9) rfl rfl rfl (Nat.le_of_ble_eq_true rfl) ⟨Nat.le_of_ble_eq_true rfl, Nat.le_of_ble_eq_true rfl⟩ dX7_reviewer_116 (fun r w1 hz9 => ?_)
                  obtain ⟨rfl, rfl⟩ := hz9
                  skip
                  refine zg_istore X dX7_reviewer_119 (by decide) ?_
                  refine zg_iload X dX7_reviewer_121 rfl ?_
                  refine zg_iconst X (v := (-1)) dX7_reviewer_123 (by decide) ?_
                  refine zg_icmp_eq X dX7_reviewer_124 (tgt := 136) (by decide) (fun c_124 => ?_) (fun c_124 => ?_)
                  · skip
                    skip
                    refine zg_iinc1 X dX7_reviewer_136 (by decide) rfl ?_
                    refine zg_goto X dX7_reviewer_139 (tgt := 59) (by decide) ?_
                    exact zg_lv (by exact ⟨rfl, rfl, rfl, rfl, rfl, trivial⟩) (ih59 (i + 1) (by omega) (by omega) (lt_s hq (fun h => h.1 c_124)))
                  · skip
                    refine zg_iload X dX7_reviewer_127 rfl ?_
                    refine zg_iload_n X dX7_reviewer_129 rfl ?_
                    refine zg_icmp_eq X dX7_reviewer_130 (tgt := 136) (by decide) (fun c_130 => ?_) (fun c_130 => ?_)
                    · skip
                      skip
                      refine zg_iinc1 X dX7_reviewer_136 (by decide) rfl ?_
                      refine zg_goto X dX7_reviewer_139 (tgt := 59) (by decide) ?_
                      exact zg_lv (by exact ⟨rfl, rfl, rfl, rfl, rfl, trivial⟩) (ih59 (i + 1) (by omega) (by omega) (lt_s hq (fun h => h.2 c_130)))
                    · skip
                      refine zg_iload X dX7_reviewer_133 rfl ?_
                      exact zg_iret X hr dX7_reviewer_135 (Nat.le_of_ble_eq_true rfl) (Nat.le_of_ble_eq_true rfl) (⟨by rw [revI, if_neg n1, er, ix_nI (by omega), if_neg n2, revL_some (by omega) ⟨c_124, c_130⟩ hq], rfl⟩)
            exact zg_lv (by exact ⟨rfl, rfl, rfl, rfl, rfl, trivial⟩) (LP59 (σ.1 0 + 1) 0 (by omega) (by omega) (fun a ha => absurd ha (Nat.not_lt_zero a)))
          · skip
            refine zg_iload X dX7_reviewer_127 rfl ?_
            refine zg_iload_n X dX7_reviewer_129 rfl ?_
            refine zg_icmp_eq X dX7_reviewer_130 (tgt := 136) (by decide) (fun c_130 => ?_) (fun c_130 => ?_)
            · skip
              have n2 : ¬ revOk (fpI σ (σ.1 0) (σ.2.2 7 r0)) (σ.2.2 21 g) := fun q => q.2 c_130
              refine zg_iinc X (v := 0) dX7_reviewer_136 (by decide) rfl (by decide) ?_
              refine zg_goto X dX7_reviewer_139 (tgt := 59) (by decide) ?_
              have LP59 : ∀ (fu : Nat) (i : Nat), σ.1 0 + 1 ≤ i + fu → i ≤ σ.1 0 → (∀ a, a < i → ¬ revOk (fpI σ (σ.1 0) (nI a)) (σ.2.2 21 g)) → zG p l e (headSpec wsX7_reviewer ({ frames := 2, cells := 0, slots := 0, locals := 44 })).room s m [.ref (ad 0), .int (nI g)].toArray below meth c D 7 A 0 0 (MQ below (qI D (zT T) (fun v0 w => v0 = revI σ g ∧ w = wM ad T (σ)) A) [.ref (ad 0), .int (nI g)].toArray s 0 0 A) (wM ad T σ) 59 [(0, .ref (ad 0)), (1, .int (nI g)), (2, .int (σ.2.2 21 g)), (3, .int (closeI σ g)), (4, .int (nI i))] [] := by
                intro fu
                induction fu with
                | zero => intro i hfu hii _; exact absurd hfu (by omega)
                | succ fu ih59 =>
                  intro i hfu hii hq
                  refine zg_iload X dX7_reviewer_59 rfl ?_
                  refine zg_aload_n X dX7_reviewer_61 rfl ?_
                  refine rg_M_people X f7 l92 dX7_reviewer_62 ?_
                  refine zg_icmpn_ge X dX7_reviewer_65 (tgt := 142) (by decide) (a := i) (b := σ.1 0) (by omega) (by omega) (fun c_65 => ?_) (fun c_65 => ?_)
                  · skip
                    refine zg_iconst X (v := (-1)) dX7_reviewer_142 (by decide) ?_
                    exact zg_iret X hr dX7_reviewer_143 (Nat.le_of_ble_eq_true rfl) (Nat.le_of_ble_eq_true rfl) (⟨by rw [revI, if_neg n1, er, ix_nI (by omega), if_neg n2, revL_none (fun a ha => hq a (by omega))], rfl⟩)
                  · skip
                    refine zg_iload X dX7_reviewer_68 rfl ?_
                    refine zg_bipush X (v := (-2)) dX7_reviewer_70 (by decide) ?_
                    refine zg_icmp_ne X dX7_reviewer_72 (tgt := 79) (by decide) (fun c_72 => ?_) (fun c_72 => absurd c_72 (nI_neg (by decide) (by omega)))
                    refine zg_iload X dX7_reviewer_79 rfl ?_
                    refine zg_iconst X (v := (-1)) dX7_reviewer_81 (by decide) ?_
                    refine zg_icmp_ne X dX7_reviewer_82 (tgt := 99) (by decide) (fun c_82 => ?_) (fun c_82 => absurd c_82 (nI_m1 (by omega)))
                    refine zg_iload X dX7_reviewer_99 rfl ?_
                    refine zg_istore X dX7_reviewer_101 (by decide) ?_
                    refine zg_iload X dX7_reviewer_103 rfl ?_
                    refine zg_iconst X (v := (-1)) dX7_reviewer_105 (by decide) ?_
                    refine zg_icmp_ne X dX7_reviewer_106 (tgt := 113) (by decide) (fun c_106 => ?_) (fun c_106 => absurd c_106 (nI_m1 (by omega)))
                    refine zg_aload_n X dX7_reviewer_113 rfl ?_
                    refine zg_iload X dX7_reviewer_114 rfl ?_
                    refine zg_callVi X (k_X7_standBy l D ad T _ hI _ (Or.inr ⟨i, by omega, rfl⟩)) zFr.rf gX7_reviewer_X7_standBy rfl rfl rfl qv_X7_standBy rfl ⟨Nat.le_of_ble_eq_true rfl, Nat.le_of_ble_eq_true rfl⟩ (q0 := 0) (ci := 9) rfl rfl rfl (Nat.le_of_ble_eq_true rfl) ⟨Nat.le_of_ble_eq_true rfl, Nat.le_of_ble_eq_true rfl⟩ dX7_reviewer_116 (fun r w1 hz9 => ?_)
                    obtain ⟨rfl, rfl⟩ := hz9
                    skip
                    refine zg_istore X dX7_reviewer_119 (by decide) ?_
                    refine zg_iload X dX7_reviewer_121 rfl ?_
                    refine zg_iconst X (v := (-1)) dX7_reviewer_123 (by decide) ?_
                    refine zg_icmp_eq X dX7_reviewer_124 (tgt := 136) (by decide) (fun c_124 => ?_) (fun c_124 => ?_)
                    · skip
                      skip
                      refine zg_iinc1 X dX7_reviewer_136 (by decide) rfl ?_
                      refine zg_goto X dX7_reviewer_139 (tgt := 59) (by decide) ?_
                      exact zg_lv (by exact ⟨rfl, rfl, rfl, rfl, rfl, trivial⟩) (ih59 (i + 1) (by omega) (by omega) (lt_s hq (fun h => h.1 c_124)))
                    · skip
                      refine zg_iload X dX7_reviewer_127 rfl ?_
                      refine zg_iload_n X dX7_reviewer_129 rfl ?_
                      refine zg_icmp_eq X dX7_reviewer_130 (tgt := 136) (by decide) (fun c_130 => ?_) (fun c_130 => ?_)
                      · skip
                        skip
                        refine zg_iinc1 X dX7_reviewer_136 (by decide) rfl ?_
                        refine zg_goto X dX7_reviewer_139 (tgt := 59) (by decide) ?_
                        exact zg_lv (by exact ⟨rfl, rfl, rfl, rfl, rfl, trivial⟩) (ih59 (i + 1) (by omega) (by omega) (lt_s hq (fun h => h.2 c_130)))
                      · skip
                        refine zg_iload X dX7_reviewer_133 rfl ?_
                        exact zg_iret X hr dX7_reviewer_135 (Nat.le_of_ble_eq_true rfl) (Nat.le_of_ble_eq_true rfl) (⟨by rw [revI, if_neg n1, er, ix_nI (by omega), if_neg n2, revL_some (by omega) ⟨c_124, c_130⟩ hq], rfl⟩)
              exact zg_lv (by exact ⟨rfl, rfl, rfl, rfl, rfl, trivial⟩) (LP59 (σ.1 0 + 1) 0 (by omega) (by omega) (fun a ha => absurd ha (Nat.not_lt_zero a)))
            · skip
              refine zg_iload X dX7_reviewer_133 rfl ?_
              exact zg_iret X hr dX7_reviewer_135 (Nat.le_of_ble_eq_true rfl) (Nat.le_of_ble_eq_true rfl) (⟨by rw [revI, if_neg n1, er, ix_nI (by omega), if_pos ⟨c_124, c_130⟩], rfl⟩)
        · skip
          refine zg_iload X dX7_reviewer_133 rfl ?_
          exact zg_iret X hr dX7_reviewer_135 (Nat.le_of_ble_eq_true rfl) (Nat.le_of_ble_eq_true rfl) (⟨by rw [revI, if_pos ⟨c_124, c_130⟩], rfl⟩)
    · skip
      refine zg_iconst X (v := (-1)) dX7_reviewer_109 (by decide) ?_
      refine zg_goto X dX7_reviewer_110 (tgt := 119) (by decide) ?_
      refine zg_top (v' := fpI σ (σ.1 0) (closeI σ g)) (by rw [c_106, fpI_m1]) ?_
      refine zg_istore X dX7_reviewer_119 (by decide) ?_
      refine zg_iload X dX7_reviewer_121 rfl ?_
      refine zg_iconst X (v := (-1)) dX7_reviewer_123 (by decide) ?_
      refine zg_icmp_eq X dX7_reviewer_124 (tgt := 136) (by decide) (fun c_124 => ?_) (fun c_124 => ?_)
      · skip
        have n1 : ¬ revOk (fpI σ (σ.1 0) (closeI σ g)) (σ.2.2 21 g) := fun q => q.1 c_124
        refine zg_iinc X (v := (-1)) dX7_reviewer_136 (by decide) rfl (by decide) ?_
        refine zg_goto X dX7_reviewer_139 (tgt := 59) (by decide) ?_
        refine zg_iload X dX7_reviewer_59 rfl ?_
        refine zg_aload_n X dX7_reviewer_61 rfl ?_
        refine rg_M_people X f7 l92 dX7_reviewer_62 ?_
        refine zg_icmp_ge X dX7_reviewer_65 (tgt := 142) (by decide) (fun c_65 => absurd c_65 (by rw [← zi_lt]; exact neg_lt_nI (by decide) (by omega))) (fun c_65 => ?_)
        refine zg_iload X dX7_reviewer_68 rfl ?_
        refine zg_bipush X (v := (-2)) dX7_reviewer_70 (by decide) ?_
        refine zg_icmp_ne X dX7_reviewer_72 (tgt := 79) (by decide) (fun _ => ?_) (fun q => absurd q (by decide))
        refine zg_iload X dX7_reviewer_79 rfl ?_
        refine zg_iconst X (v := (-1)) dX7_reviewer_81 (by decide) ?_
        refine zg_icmp_ne X dX7_reviewer_82 (tgt := 99) (by decide) (fun q => absurd q (by decide)) (fun _ => ?_)
        refine zg_aload_n X dX7_reviewer_85 rfl ?_
        refine rg_M_rightOwners X f7 l31 dX7_reviewer_86 ?_
        refine zg_aload_n X dX7_reviewer_89 rfl ?_
        refine rg_M_rightOf X f7 l37 dX7_reviewer_90 ?_
        refine zg_iload_n X dX7_reviewer_93 rfl ?_
        refine rlM_gRight X (by omega) dX7_reviewer_94 ?_
        refine zg_top er ?_
        refine rlM_rOwners X (by omega) dX7_reviewer_95 ?_
        refine zg_goto X dX7_reviewer_96 (tgt := 101) (by decide) ?_
        refine zg_istore X dX7_reviewer_101 (by decide) ?_
        refine zg_iload X dX7_reviewer_103 rfl ?_
        refine zg_iconst X (v := (-1)) dX7_reviewer_105 (by decide) ?_
        refine zg_icmp_ne X dX7_reviewer_106 (tgt := 113) (by decide) (fun c_106 => ?_) (fun c_106 => absurd c_106 (by obtain ⟨j9, hj9, e9⟩ := hro; rw [e9]; exact nI_m1 (by omega)))
        refine zg_aload_n X dX7_reviewer_113 rfl ?_
        refine zg_iload X dX7_reviewer_114 rfl ?_
        refine zg_callVi X (k_X7_standBy l D ad T _ hI _ (Or.inr hro)) zFr.rf gX7_reviewer_X7_standBy rfl rfl rfl qv_X7_standBy rfl ⟨Nat.le_of_ble_eq_true rfl, Nat.le_of_ble_eq_true rfl⟩ (q0 := 0) (ci := 9) rfl rfl rfl (Nat.le_of_ble_eq_true rfl) ⟨Nat.le_of_ble_eq_true rfl, Nat.le_of_ble_eq_true rfl⟩ dX7_reviewer_116 (fun r w1 hz9 => ?_)
        obtain ⟨rfl, rfl⟩ := hz9
        skip
        refine zg_istore X dX7_reviewer_119 (by decide) ?_
        refine zg_iload X dX7_reviewer_121 rfl ?_
        refine zg_iconst X (v := (-1)) dX7_reviewer_123 (by decide) ?_
        refine zg_icmp_eq X dX7_reviewer_124 (tgt := 136) (by decide) (fun c_124 => ?_) (fun c_124 => ?_)
        · skip
          have n2 : ¬ revOk (fpI σ (σ.1 0) (σ.2.2 7 r0)) (σ.2.2 21 g) := fun q => q.1 c_124
          refine zg_iinc X (v := 0) dX7_reviewer_136 (by decide) rfl (by decide) ?_
          refine zg_goto X dX7_reviewer_139 (tgt := 59) (by decide) ?_
          have LP59 : ∀ (fu : Nat) (i : Nat), σ.1 0 + 1 ≤ i + fu → i ≤ σ.1 0 → (∀ a, a < i → ¬ revOk (fpI σ (σ.1 0) (nI a)) (σ.2.2 21 g)) → zG p l e (headSpec wsX7_reviewer ({ frames := 2, cells := 0, slots := 0, locals := 44 })).room s m [.ref (ad 0), .int (nI g)].toArray below meth c D 7 A 0 0 (MQ below (qI D (zT T) (fun v0 w => v0 = revI σ g ∧ w = wM ad T (σ)) A) [.ref (ad 0), .int (nI g)].toArray s 0 0 A) (wM ad T σ) 59 [(0, .ref (ad 0)), (1, .int (nI g)), (2, .int (σ.2.2 21 g)), (3, .int (closeI σ g)), (4, .int (nI i))] [] := by
            intro fu
            induction fu with
            | zero => intro i hfu hii _; exact absurd hfu (by omega)
            | succ fu ih59 =>
              intro i hfu hii hq
              refine zg_iload X dX7_reviewer_59 rfl ?_
              refine zg_aload_n X dX7_reviewer_61 rfl ?_
              refine rg_M_people X f7 l92 dX7_reviewer_62 ?_
              refine zg_icmpn_ge X dX7_reviewer_65 (tgt := 142) (by decide) (a := i) (b := σ.1 0) (by omega) (by omega) (fun c_65 => ?_) (fun c_65 => ?_)
              · skip
                refine zg_iconst X (v := (-1)) dX7_reviewer_142 (by decide) ?_
                exact zg_iret X hr dX7_reviewer_143 (Nat.le_of_ble_eq_true rfl) (Nat.le_of_ble_eq_true rfl) (⟨by rw [revI, if_neg n1, er, ix_nI (by omega), if_neg n2, revL_none (fun a ha => hq a (by omega))], rfl⟩)
              · skip
                refine zg_iload X dX7_reviewer_68 rfl ?_
                refine zg_bipush X (v := (-2)) dX7_reviewer_70 (by decide) ?_
                refine zg_icmp_ne X dX7_reviewer_72 (tgt := 79) (by decide) (fun c_72 => ?_) (fun c_72 => absurd c_72 (nI_neg (by decide) (by omega)))
                refine zg_iload X dX7_reviewer_79 rfl ?_
                refine zg_iconst X (v := (-1)) dX7_reviewer_81 (by decide) ?_
                refine zg_icmp_ne X dX7_reviewer_82 (tgt := 99) (by decide) (fun c_82 => ?_) (fun c_82 => absurd c_82 (nI_m1 (by omega)))
                refine zg_iload X dX7_reviewer_99 rfl ?_
                refine zg_istore X dX7_reviewer_101 (by decide) ?_
                refine zg_iload X dX7_reviewer_103 rfl ?_
                refine zg_iconst X (v := (-1)) dX7_reviewer_105 (by decide) ?_
                refine zg_icmp_ne X dX7_reviewer_106 (tgt := 113) (by decide) (fun c_106 => ?_) (fun c_106 => absurd c_106 (nI_m1 (by omega)))
                refine zg_aload_n X dX7_reviewer_113 rfl ?_
                refine zg_iload X dX7_reviewer_114 rfl ?_
                refine zg_callVi X (k_X7_standBy l D ad T _ hI _ (Or.inr ⟨i, by omega, rfl⟩)) zFr.rf gX7_reviewer_X7_standBy rfl rfl rfl qv_X7_standBy rfl ⟨Nat.le_of_ble_eq_true rfl, Nat.le_of_ble_eq_true rfl⟩ (q0 := 0) (ci := 9) rfl rfl rfl (Nat.le_of_ble_eq_true rfl) ⟨Nat.le_of_ble_eq_true rfl, Nat.le_of_ble_eq_true rfl⟩ dX7_reviewer_116 (fun r w1 hz9 => ?_)
                obtain ⟨rfl, rfl⟩ := hz9
                skip
                refine zg_istore X dX7_reviewer_119 (by decide) ?_
                refine zg_iload X dX7_reviewer_121 rfl ?_
                refine zg_iconst X (v := (-1)) dX7_reviewer_123 (by decide) ?_
                refine zg_icmp_eq X dX7_reviewer_124 (tgt := 136) (by decide) (fun c_124 => ?_) (fun c_124 => ?_)
                · skip
                  skip
                  refine zg_iinc1 X dX7_reviewer_136 (by decide) rfl ?_
                  refine zg_goto X dX7_reviewer_139 (tgt := 59) (by decide) ?_
                  exact zg_lv (by exact ⟨rfl, rfl, rfl, rfl, rfl, trivial⟩) (ih59 (i + 1) (by omega) (by omega) (lt_s hq (fun h => h.1 c_124)))
                · skip
                  refine zg_iload X dX7_reviewer_127 rfl ?_
                  refine zg_iload_n X dX7_reviewer_129 rfl ?_
                  refine zg_icmp_eq X dX7_reviewer_130 (tgt := 136) (by decide) (fun c_130 => ?_) (fun c_130 => ?_)
                  · skip
                    skip
                    refine zg_iinc1 X dX7_reviewer_136 (by decide) rfl ?_
                    refine zg_goto X dX7_reviewer_139 (tgt := 59) (by decide) ?_
                    exact zg_lv (by exact ⟨rfl, rfl, rfl, rfl, rfl, trivial⟩) (ih59 (i + 1) (by omega) (by omega) (lt_s hq (fun h => h.2 c_130)))
                  · skip
                    refine zg_iload X dX7_reviewer_133 rfl ?_
                    exact zg_iret X hr dX7_reviewer_135 (Nat.le_of_ble_eq_true rfl) (Nat.le_of_ble_eq_true rfl) (⟨by rw [revI, if_neg n1, er, ix_nI (by omega), if_neg n2, revL_some (by omega) ⟨c_124, c_130⟩ hq], rfl⟩)
          exact zg_lv (by exact ⟨rfl, rfl, rfl, rfl, rfl, trivial⟩) (LP59 (σ.1 0 + 1) 0 (by omega) (by omega) (fun a ha => absurd ha (Nat.not_lt_zero a)))
        · skip
          refine zg_iload X dX7_reviewer_127 rfl ?_
          refine zg_iload_n X dX7_reviewer_129 rfl ?_
          refine zg_icmp_eq X dX7_reviewer_130 (tgt := 136) (by decide) (fun c_130 => ?_) (fun c_130 => ?_)
          · skip
            have n2 : ¬ revOk (fpI σ (σ.1 0) (σ.2.2 7 r0)) (σ.2.2 21 g) := fun q => q.2 c_130
            refine zg_iinc X (v := 0) dX7_reviewer_136 (by decide) rfl (by decide) ?_
            refine zg_goto X dX7_reviewer_139 (tgt := 59) (by decide) ?_
            have LP59 : ∀ (fu : Nat) (i : Nat), σ.1 0 + 1 ≤ i + fu → i ≤ σ.1 0 → (∀ a, a < i → ¬ revOk (fpI σ (σ.1 0) (nI a)) (σ.2.2 21 g)) → zG p l e (headSpec wsX7_reviewer ({ frames := 2, cells := 0, slots := 0, locals := 44 })).room s m [.ref (ad 0), .int (nI g)].toArray below meth c D 7 A 0 0 (MQ below (qI D (zT T) (fun v0 w => v0 = revI σ g ∧ w = wM ad T (σ)) A) [.ref (ad 0), .int (nI g)].toArray s 0 0 A) (wM ad T σ) 59 [(0, .ref (ad 0)), (1, .int (nI g)), (2, .int (σ.2.2 21 g)), (3, .int (closeI σ g)), (4, .int (nI i))] [] := by
              intro fu
              induction fu with
              | zero => intro i hfu hii _; exact absurd hfu (by omega)
              | succ fu ih59 =>
                intro i hfu hii hq
                refine zg_iload X dX7_reviewer_59 rfl ?_
                refine zg_aload_n X dX7_reviewer_61 rfl ?_
                refine rg_M_people X f7 l92 dX7_reviewer_62 ?_
                refine zg_icmpn_ge X dX7_reviewer_65 (tgt := 142) (by decide) (a := i) (b := σ.1 0) (by omega) (by omega) (fun c_65 => ?_) (fun c_65 => ?_)
                · skip
                  refine zg_iconst X (v := (-1)) dX7_reviewer_142 (by decide) ?_
                  exact zg_iret X hr dX7_reviewer_143 (Nat.le_of_ble_eq_true rfl) (Nat.le_of_ble_eq_true rfl) (⟨by rw [revI, if_neg n1, er, ix_nI (by omega), if_neg n2, revL_none (fun a ha => hq a (by omega))], rfl⟩)
                · skip
                  refine zg_iload X dX7_reviewer_68 rfl ?_
                  refine zg_bipush X (v := (-2)) dX7_reviewer_70 (by decide) ?_
                  refine zg_icmp_ne X dX7_reviewer_72 (tgt := 79) (by decide) (fun c_72 => ?_) (fun c_72 => absurd c_72 (nI_neg (by decide) (by omega)))
                  refine zg_iload X dX7_reviewer_79 rfl ?_
                  refine zg_iconst X (v := (-1)) dX7_reviewer_81 (by decide) ?_
                  refine zg_icmp_ne X dX7_reviewer_82 (tgt := 99) (by decide) (fun c_82 => ?_) (fun c_82 => absurd c_82 (nI_m1 (by omega)))
                  refine zg_iload X dX7_reviewer_99 rfl ?_
                  refine zg_istore X dX7_reviewer_101 (by decide) ?_
                  refine zg_iload X dX7_reviewer_103 rfl ?_
                  refine zg_iconst X (v := (-1)) dX7_reviewer_105 (by decide) ?_
                  refine zg_icmp_ne X dX7_reviewer_106 (tgt := 113) (by decide) (fun c_106 => ?_) (fun c_106 => absurd c_106 (nI_m1 (by omega)))
                  refine zg_aload_n X dX7_reviewer_113 rfl ?_
                  refine zg_iload X dX7_reviewer_114 rfl ?_
                  refine zg_callVi X (k_X7_standBy l D ad T _ hI _ (Or.inr ⟨i, by omega, rfl⟩)) zFr.rf gX7_reviewer_X7_standBy rfl rfl rfl qv_X7_standBy rfl ⟨Nat.le_of_ble_eq_true rfl, Nat.le_of_ble_eq_true rfl⟩ (q0 := 0) (ci := 9) rfl rfl rfl (Nat.le_of_ble_eq_true rfl) ⟨Nat.le_of_ble_eq_true rfl, Nat.le_of_ble_eq_true rfl⟩ dX7_reviewer_116 (fun r w1 hz9 => ?_)
                  obtain ⟨rfl, rfl⟩ := hz9
                  skip
                  refine zg_istore X dX7_reviewer_119 (by decide) ?_
                  refine zg_iload X dX7_reviewer_121 rfl ?_
                  refine zg_iconst X (v := (-1)) dX7_reviewer_123 (by decide) ?_
                  refine zg_icmp_eq X dX7_reviewer_124 (tgt := 136) (by decide) (fun c_124 => ?_) (fun c_124 => ?_)
                  · skip
                    skip
                    refine zg_iinc1 X dX7_reviewer_136 (by decide) rfl ?_
                    refine zg_goto X dX7_reviewer_139 (tgt := 59) (by decide) ?_
                    exact zg_lv (by exact ⟨rfl, rfl, rfl, rfl, rfl, trivial⟩) (ih59 (i + 1) (by omega) (by omega) (lt_s hq (fun h => h.1 c_124)))
                  · skip
                    refine zg_iload X dX7_reviewer_127 rfl ?_
                    refine zg_iload_n X dX7_reviewer_129 rfl ?_
                    refine zg_icmp_eq X dX7_reviewer_130 (tgt := 136) (by decide) (fun c_130 => ?_) (fun c_130 => ?_)
                    · skip
                      skip
                      refine zg_iinc1 X dX7_reviewer_136 (by decide) rfl ?_
                      refine zg_goto X dX7_reviewer_139 (tgt := 59) (by decide) ?_
                      exact zg_lv (by exact ⟨rfl, rfl, rfl, rfl, rfl, trivial⟩) (ih59 (i + 1) (by omega) (by omega) (lt_s hq (fun h => h.2 c_130)))
                    · skip
                      refine zg_iload X dX7_reviewer_133 rfl ?_
                      exact zg_iret X hr dX7_reviewer_135 (Nat.le_of_ble_eq_true rfl) (Nat.le_of_ble_eq_true rfl) (⟨by rw [revI, if_neg n1, er, ix_nI (by omega), if_neg n2, revL_some (by omega) ⟨c_124, c_130⟩ hq], rfl⟩)
            exact zg_lv (by exact ⟨rfl, rfl, rfl, rfl, rfl, trivial⟩) (LP59 (σ.1 0 + 1) 0 (by omega) (by omega) (fun a ha => absurd ha (Nat.not_lt_zero a)))
          · skip
            refine zg_iload X dX7_reviewer_133 rfl ?_
            exact zg_iret X hr dX7_reviewer_135 (Nat.le_of_ble_eq_true rfl) (Nat.le_of_ble_eq_true rfl) (⟨by rw [revI, if_neg n1, er, ix_nI (by omega), if_pos ⟨c_124, c_130⟩], rfl⟩)
      · skip
        refine zg_iload X dX7_reviewer_127 rfl ?_
        refine zg_iload_n X dX7_reviewer_129 rfl ?_
        refine zg_icmp_eq X dX7_reviewer_130 (tgt := 136) (by decide) (fun c_130 => ?_) (fun c_130 => ?_)
        · skip
          have n1 : ¬ revOk (fpI σ (σ.1 0) (closeI σ g)) (σ.2.2 21 g) := fun q => q.2 c_130
          refine zg_iinc X (v := (-1)) dX7_reviewer_136 (by decide) rfl (by decide) ?_
          refine zg_goto X dX7_reviewer_139 (tgt := 59) (by decide) ?_
          refine zg_iload X dX7_reviewer_59 rfl ?_
          refine zg_aload_n X dX7_reviewer_61 rfl ?_
          refine rg_M_people X f7 l92 dX7_reviewer_62 ?_
          refine zg_icmp_ge X dX7_reviewer_65 (tgt := 142) (by decide) (fun c_65 => absurd c_65 (by rw [← zi_lt]; exact neg_lt_nI (by decide) (by omega))) (fun c_65 => ?_)
          refine zg_iload X dX7_reviewer_68 rfl ?_
          refine zg_bipush X (v := (-2)) dX7_reviewer_70 (by decide) ?_
          refine zg_icmp_ne X dX7_reviewer_72 (tgt := 79) (by decide) (fun _ => ?_) (fun q => absurd q (by decide))
          refine zg_iload X dX7_reviewer_79 rfl ?_
          refine zg_iconst X (v := (-1)) dX7_reviewer_81 (by decide) ?_
          refine zg_icmp_ne X dX7_reviewer_82 (tgt := 99) (by decide) (fun q => absurd q (by decide)) (fun _ => ?_)
          refine zg_aload_n X dX7_reviewer_85 rfl ?_
          refine rg_M_rightOwners X f7 l31 dX7_reviewer_86 ?_
          refine zg_aload_n X dX7_reviewer_89 rfl ?_
          refine rg_M_rightOf X f7 l37 dX7_reviewer_90 ?_
          refine zg_iload_n X dX7_reviewer_93 rfl ?_
          refine rlM_gRight X (by omega) dX7_reviewer_94 ?_
          refine zg_top er ?_
          refine rlM_rOwners X (by omega) dX7_reviewer_95 ?_
          refine zg_goto X dX7_reviewer_96 (tgt := 101) (by decide) ?_
          refine zg_istore X dX7_reviewer_101 (by decide) ?_
          refine zg_iload X dX7_reviewer_103 rfl ?_
          refine zg_iconst X (v := (-1)) dX7_reviewer_105 (by decide) ?_
          refine zg_icmp_ne X dX7_reviewer_106 (tgt := 113) (by decide) (fun c_106 => ?_) (fun c_106 => absurd c_106 (by obtain ⟨j9, hj9, e9⟩ := hro; rw [e9]; exact nI_m1 (by omega)))
          refine zg_aload_n X dX7_reviewer_113 rfl ?_
          refine zg_iload X dX7_reviewer_114 rfl ?_
          refine zg_callVi X (k_X7_standBy l D ad T _ hI _ (Or.inr hro)) zFr.rf gX7_reviewer_X7_standBy rfl rfl rfl qv_X7_standBy rfl ⟨Nat.le_of_ble_eq_true rfl, Nat.le_of_ble_eq_true rfl⟩ (q0 := 0) (ci := 9) rfl rfl rfl (Nat.le_of_ble_eq_true rfl) ⟨Nat.le_of_ble_eq_true rfl, Nat.le_of_ble_eq_true rfl⟩ dX7_reviewer_116 (fun r w1 hz9 => ?_)
          obtain ⟨rfl, rfl⟩ := hz9
          skip
          refine zg_istore X dX7_reviewer_119 (by decide) ?_
          refine zg_iload X dX7_reviewer_121 rfl ?_
          refine zg_iconst X (v := (-1)) dX7_reviewer_123 (by decide) ?_
          refine zg_icmp_eq X dX7_reviewer_124 (tgt := 136) (by decide) (fun c_124 => ?_) (fun c_124 => ?_)
          · skip
            have n2 : ¬ revOk (fpI σ (σ.1 0) (σ.2.2 7 r0)) (σ.2.2 21 g) := fun q => q.1 c_124
            refine zg_iinc X (v := 0) dX7_reviewer_136 (by decide) rfl (by decide) ?_
            refine zg_goto X dX7_reviewer_139 (tgt := 59) (by decide) ?_
            have LP59 : ∀ (fu : Nat) (i : Nat), σ.1 0 + 1 ≤ i + fu → i ≤ σ.1 0 → (∀ a, a < i → ¬ revOk (fpI σ (σ.1 0) (nI a)) (σ.2.2 21 g)) → zG p l e (headSpec wsX7_reviewer ({ frames := 2, cells := 0, slots := 0, locals := 44 })).room s m [.ref (ad 0), .int (nI g)].toArray below meth c D 7 A 0 0 (MQ below (qI D (zT T) (fun v0 w => v0 = revI σ g ∧ w = wM ad T (σ)) A) [.ref (ad 0), .int (nI g)].toArray s 0 0 A) (wM ad T σ) 59 [(0, .ref (ad 0)), (1, .int (nI g)), (2, .int (σ.2.2 21 g)), (3, .int (closeI σ g)), (4, .int (nI i))] [] := by
              intro fu
              induction fu with
              | zero => intro i hfu hii _; exact absurd hfu (by omega)
              | succ fu ih59 =>
                intro i hfu hii hq
                refine zg_iload X dX7_reviewer_59 rfl ?_
                refine zg_aload_n X dX7_reviewer_61 rfl ?_
                refine rg_M_people X f7 l92 dX7_reviewer_62 ?_
                refine zg_icmpn_ge X dX7_reviewer_65 (tgt := 142) (by decide) (a := i) (b := σ.1 0) (by omega) (by omega) (fun c_65 => ?_) (fun c_65 => ?_)
                · skip
                  refine zg_iconst X (v := (-1)) dX7_reviewer_142 (by decide) ?_
                  exact zg_iret X hr dX7_reviewer_143 (Nat.le_of_ble_eq_true rfl) (Nat.le_of_ble_eq_true rfl) (⟨by rw [revI, if_neg n1, er, ix_nI (by omega), if_neg n2, revL_none (fun a ha => hq a (by omega))], rfl⟩)
                · skip
                  refine zg_iload X dX7_reviewer_68 rfl ?_
                  refine zg_bipush X (v := (-2)) dX7_reviewer_70 (by decide) ?_
                  refine zg_icmp_ne X dX7_reviewer_72 (tgt := 79) (by decide) (fun c_72 => ?_) (fun c_72 => absurd c_72 (nI_neg (by decide) (by omega)))
                  refine zg_iload X dX7_reviewer_79 rfl ?_
                  refine zg_iconst X (v := (-1)) dX7_reviewer_81 (by decide) ?_
                  refine zg_icmp_ne X dX7_reviewer_82 (tgt := 99) (by decide) (fun c_82 => ?_) (fun c_82 => absurd c_82 (nI_m1 (by omega)))
                  refine zg_iload X dX7_reviewer_99 rfl ?_
                  refine zg_istore X dX7_reviewer_101 (by decide) ?_
                  refine zg_iload X dX7_reviewer_103 rfl ?_
                  refine zg_iconst X (v := (-1)) dX7_reviewer_105 (by decide) ?_
                  refine zg_icmp_ne X dX7_reviewer_106 (tgt := 113) (by decide) (fun c_106 => ?_) (fun c_106 => absurd c_106 (nI_m1 (by omega)))
                  refine zg_aload_n X dX7_reviewer_113 rfl ?_
                  refine zg_iload X dX7_reviewer_114 rfl ?_
                  refine zg_callVi X (k_X7_standBy l D ad T _ hI _ (Or.inr ⟨i, by omega, rfl⟩)) zFr.rf gX7_reviewer_X7_standBy rfl rfl rfl qv_X7_standBy rfl ⟨Nat.le_of_ble_eq_true rfl, Nat.le_of_ble_eq_true rfl⟩ (q0 := 0) (ci := 9) rfl rfl rfl (Nat.le_of_ble_eq_true rfl) ⟨Nat.le_of_ble_eq_true rfl, Nat.le_of_ble_eq_true rfl⟩ dX7_reviewer_116 (fun r w1 hz9 => ?_)
                  obtain ⟨rfl, rfl⟩ := hz9
                  skip
                  refine zg_istore X dX7_reviewer_119 (by decide) ?_
                  refine zg_iload X dX7_reviewer_121 rfl ?_
                  refine zg_iconst X (v := (-1)) dX7_reviewer_123 (by decide) ?_
                  refine zg_icmp_eq X dX7_reviewer_124 (tgt := 136) (by decide) (fun c_124 => ?_) (fun c_124 => ?_)
                  · skip
                    skip
                    refine zg_iinc1 X dX7_reviewer_136 (by decide) rfl ?_
                    refine zg_goto X dX7_reviewer_139 (tgt := 59) (by decide) ?_
                    exact zg_lv (by exact ⟨rfl, rfl, rfl, rfl, rfl, trivial⟩) (ih59 (i + 1) (by omega) (by omega) (lt_s hq (fun h => h.1 c_124)))
                  · skip
                    refine zg_iload X dX7_reviewer_127 rfl ?_
                    refine zg_iload_n X dX7_reviewer_129 rfl ?_
                    refine zg_icmp_eq X dX7_reviewer_130 (tgt := 136) (by decide) (fun c_130 => ?_) (fun c_130 => ?_)
                    · skip
                      skip
                      refine zg_iinc1 X dX7_reviewer_136 (by decide) rfl ?_
                      refine zg_goto X dX7_reviewer_139 (tgt := 59) (by decide) ?_
                      exact zg_lv (by exact ⟨rfl, rfl, rfl, rfl, rfl, trivial⟩) (ih59 (i + 1) (by omega) (by omega) (lt_s hq (fun h => h.2 c_130)))
                    · skip
                      refine zg_iload X dX7_reviewer_133 rfl ?_
                      exact zg_iret X hr dX7_reviewer_135 (Nat.le_of_ble_eq_true rfl) (Nat.le_of_ble_eq_true rfl) (⟨by rw [revI, if_neg n1, er, ix_nI (by omega), if_neg n2, revL_some (by omega) ⟨c_124, c_130⟩ hq], rfl⟩)
            exact zg_lv (by exact ⟨rfl, rfl, rfl, rfl, rfl, trivial⟩) (LP59 (σ.1 0 + 1) 0 (by omega) (by omega) (fun a ha => absurd ha (Nat.not_lt_zero a)))
          · skip
            refine zg_iload X dX7_reviewer_127 rfl ?_
            refine zg_iload_n X dX7_reviewer_129 rfl ?_
            refine zg_icmp_eq X dX7_reviewer_130 (tgt := 136) (by decide) (fun c_130 => ?_) (fun c_130 => ?_)
            · skip
              have n2 : ¬ revOk (fpI σ (σ.1 0) (σ.2.2 7 r0)) (σ.2.2 21 g) := fun q => q.2 c_130
              refine zg_iinc X (v := 0) dX7_reviewer_136 (by decide) rfl (by decide) ?_
              refine zg_goto X dX7_reviewer_139 (tgt := 59) (by decide) ?_
              have LP59 : ∀ (fu : Nat) (i : Nat), σ.1 0 + 1 ≤ i + fu → i ≤ σ.1 0 → (∀ a, a < i → ¬ revOk (fpI σ (σ.1 0) (nI a)) (σ.2.2 21 g)) → zG p l e (headSpec wsX7_reviewer ({ frames := 2, cells := 0, slots := 0, locals := 44 })).room s m [.ref (ad 0), .int (nI g)].toArray below meth c D 7 A 0 0 (MQ below (qI D (zT T) (fun v0 w => v0 = revI σ g ∧ w = wM ad T (σ)) A) [.ref (ad 0), .int (nI g)].toArray s 0 0 A) (wM ad T σ) 59 [(0, .ref (ad 0)), (1, .int (nI g)), (2, .int (σ.2.2 21 g)), (3, .int (closeI σ g)), (4, .int (nI i))] [] := by
                intro fu
                induction fu with
                | zero => intro i hfu hii _; exact absurd hfu (by omega)
                | succ fu ih59 =>
                  intro i hfu hii hq
                  refine zg_iload X dX7_reviewer_59 rfl ?_
                  refine zg_aload_n X dX7_reviewer_61 rfl ?_
                  refine rg_M_people X f7 l92 dX7_reviewer_62 ?_
                  refine zg_icmpn_ge X dX7_reviewer_65 (tgt := 142) (by decide) (a := i) (b := σ.1 0) (by omega) (by omega) (fun c_65 => ?_) (fun c_65 => ?_)
                  · skip
                    refine zg_iconst X (v := (-1)) dX7_reviewer_142 (by decide) ?_
                    exact zg_iret X hr dX7_reviewer_143 (Nat.le_of_ble_eq_true rfl) (Nat.le_of_ble_eq_true rfl) (⟨by rw [revI, if_neg n1, er, ix_nI (by omega), if_neg n2, revL_none (fun a ha => hq a (by omega))], rfl⟩)
                  · skip
                    refine zg_iload X dX7_reviewer_68 rfl ?_
                    refine zg_bipush X (v := (-2)) dX7_reviewer_70 (by decide) ?_
                    refine zg_icmp_ne X dX7_reviewer_72 (tgt := 79) (by decide) (fun c_72 => ?_) (fun c_72 => absurd c_72 (nI_neg (by decide) (by omega)))
                    refine zg_iload X dX7_reviewer_79 rfl ?_
                    refine zg_iconst X (v := (-1)) dX7_reviewer_81 (by decide) ?_
                    refine zg_icmp_ne X dX7_reviewer_82 (tgt := 99) (by decide) (fun c_82 => ?_) (fun c_82 => absurd c_82 (nI_m1 (by omega)))
                    refine zg_iload X dX7_reviewer_99 rfl ?_
                    refine zg_istore X dX7_reviewer_101 (by decide) ?_
                    refine zg_iload X dX7_reviewer_103 rfl ?_
                    refine zg_iconst X (v := (-1)) dX7_reviewer_105 (by decide) ?_
                    refine zg_icmp_ne X dX7_reviewer_106 (tgt := 113) (by decide) (fun c_106 => ?_) (fun c_106 => absurd c_106 (nI_m1 (by omega)))
                    refine zg_aload_n X dX7_reviewer_113 rfl ?_
                    refine zg_iload X dX7_reviewer_114 rfl ?_
                    refine zg_callVi X (k_X7_standBy l D ad T _ hI _ (Or.inr ⟨i, by omega, rfl⟩)) zFr.rf gX7_reviewer_X7_standBy rfl rfl rfl qv_X7_standBy rfl ⟨Nat.le_of_ble_eq_true rfl, Nat.le_of_ble_eq_true rfl⟩ (q0 := 0) (ci := 9) rfl rfl rfl (Nat.le_of_ble_eq_true rfl) ⟨Nat.le_of_ble_eq_true rfl, Nat.le_of_ble_eq_true rfl⟩ dX7_reviewer_116 (fun r w1 hz9 => ?_)
                    obtain ⟨rfl, rfl⟩ := hz9
                    skip
                    refine zg_istore X dX7_reviewer_119 (by decide) ?_
                    refine zg_iload X dX7_reviewer_121 rfl ?_
                    refine zg_iconst X (v := (-1)) dX7_reviewer_123 (by decide) ?_
                    refine zg_icmp_eq X dX7_reviewer_124 (tgt := 136) (by decide) (fun c_124 => ?_) (fun c_124 => ?_)
                    · skip
                      skip
                      refine zg_iinc1 X dX7_reviewer_136 (by decide) rfl ?_
                      refine zg_goto X dX7_reviewer_139 (tgt := 59) (by decide) ?_
                      exact zg_lv (by exact ⟨rfl, rfl, rfl, rfl, rfl, trivial⟩) (ih59 (i + 1) (by omega) (by omega) (lt_s hq (fun h => h.1 c_124)))
                    · skip
                      refine zg_iload X dX7_reviewer_127 rfl ?_
                      refine zg_iload_n X dX7_reviewer_129 rfl ?_
                      refine zg_icmp_eq X dX7_reviewer_130 (tgt := 136) (by decide) (fun c_130 => ?_) (fun c_130 => ?_)
                      · skip
                        skip
                        refine zg_iinc1 X dX7_reviewer_136 (by decide) rfl ?_
                        refine zg_goto X dX7_reviewer_139 (tgt := 59) (by decide) ?_
                        exact zg_lv (by exact ⟨rfl, rfl, rfl, rfl, rfl, trivial⟩) (ih59 (i + 1) (by omega) (by omega) (lt_s hq (fun h => h.2 c_130)))
                      · skip
                        refine zg_iload X dX7_reviewer_133 rfl ?_
                        exact zg_iret X hr dX7_reviewer_135 (Nat.le_of_ble_eq_true rfl) (Nat.le_of_ble_eq_true rfl) (⟨by rw [revI, if_neg n1, er, ix_nI (by omega), if_neg n2, revL_some (by omega) ⟨c_124, c_130⟩ hq], rfl⟩)
              exact zg_lv (by exact ⟨rfl, rfl, rfl, rfl, rfl, trivial⟩) (LP59 (σ.1 0 + 1) 0 (by omega) (by omega) (fun a ha => absurd ha (Nat.not_lt_zero a)))
            · skip
              refine zg_iload X dX7_reviewer_133 rfl ?_
              exact zg_iret X hr dX7_reviewer_135 (Nat.le_of_ble_eq_true rfl) (Nat.le_of_ble_eq_true rfl) (⟨by rw [revI, if_neg n1, er, ix_nI (by omega), if_pos ⟨c_124, c_130⟩], rfl⟩)
        · skip
          refine zg_iload X dX7_reviewer_133 rfl ?_
          exact zg_iret X hr dX7_reviewer_135 (Nat.le_of_ble_eq_true rfl) (Nat.le_of_ble_eq_true rfl) (⟨by rw [revI, if_pos ⟨c_124, c_130⟩], rfl⟩)
  · skip
    refine zg_iconst X (v := (-1)) dX7_reviewer_9 (by decide) ?_
    refine zg_goto X dX7_reviewer_10 (tgt := 19) (by decide) ?_
    refine zg_top (v' := σ.2.2 21 g) (by first | (obtain ⟨j, hj, e21, e25⟩ := hI.mper g hg c_6; exact (e25.trans e21.symm)) | (obtain ⟨j, hj, e21, e22, e25⟩ := hI.mgrp g hg c_6; exact e21.symm)) ?_
    refine zg_istore_n X dX7_reviewer_19 (by decide) ?_
    refine zg_aload_n X dX7_reviewer_20 rfl ?_
    refine rg_M_isToGroup X f7 l53 dX7_reviewer_21 ?_
    refine zg_iload_n X dX7_reviewer_24 rfl ?_
    refine rlM_isToGroup X (by omega) dX7_reviewer_25 ?_
    refine zg_if_eq X dX7_reviewer_26 (tgt := 43) (by decide) (fun c_26 => absurd c_26 c_6) (fun c_26 => ?_)
    refine zg_aload_n X dX7_reviewer_29 rfl ?_
    obtain ⟨j, hj, e21, e22, e25⟩ := hI.mgrp g hg c_26
    refine rg_M_groupOwners X f7 l19 dX7_reviewer_30 ?_
    refine zg_aload_n X dX7_reviewer_33 rfl ?_
    refine rg_M_targets X f7 l40 dX7_reviewer_34 ?_
    refine zg_iload_n X dX7_reviewer_37 rfl ?_
    refine rlM_targets X (by omega) dX7_reviewer_38 ?_
    refine zg_top e25 ?_
    refine rlM_gOwners X (by omega) dX7_reviewer_39 ?_
    refine zg_goto X dX7_reviewer_40 (tgt := 54) (by decide) ?_
    refine zg_top (v' := closeI σ g) (by first | (rw [closeI, if_pos e21, e22, if_pos (pIn_nI (by omega) hj), ix_nI (by omega)]) | (rw [closeI, if_neg (by rw [e21]; exact nI_m1 (by omega)), e21, ix_nI (by omega)])) ?_
    have hcl : zRef (closeI σ g) (σ.1 0) := by first | (rw [closeI, if_pos e21, e22, if_pos (pIn_nI (by omega) hj), ix_nI (by omega)]; exact Or.inr (hI.gOw j hj)) | (rw [closeI, if_neg (by rw [e21]; exact nI_m1 (by omega)), e21, ix_nI (by omega)]; exact hI.mgr j hj)
    refine zg_istore_n X dX7_reviewer_54 (by decide) ?_
    refine zg_bipush X (v := (-2)) dX7_reviewer_55 (by decide) ?_
    refine zg_istore X dX7_reviewer_57 (by decide) ?_
    refine zg_iload X dX7_reviewer_59 rfl ?_
    refine zg_aload_n X dX7_reviewer_61 rfl ?_
    refine rg_M_people X f7 l92 dX7_reviewer_62 ?_
    refine zg_icmp_ge X dX7_reviewer_65 (tgt := 142) (by decide) (fun c_65 => absurd c_65 (by rw [← zi_lt]; exact neg_lt_nI (by decide) (by omega))) (fun c_65 => ?_)
    refine zg_iload X dX7_reviewer_68 rfl ?_
    refine zg_bipush X (v := (-2)) dX7_reviewer_70 (by decide) ?_
    refine zg_icmp_ne X dX7_reviewer_72 (tgt := 79) (by decide) (fun q => absurd q (by decide)) (fun _ => ?_)
    refine zg_iload_n X dX7_reviewer_75 rfl ?_
    refine zg_goto X dX7_reviewer_76 (tgt := 101) (by decide) ?_
    refine zg_istore X dX7_reviewer_101 (by decide) ?_
    refine zg_iload X dX7_reviewer_103 rfl ?_
    refine zg_iconst X (v := (-1)) dX7_reviewer_105 (by decide) ?_
    refine zg_icmp_ne X dX7_reviewer_106 (tgt := 113) (by decide) (fun c_106 => ?_) (fun c_106 => ?_)
    · skip
      refine zg_aload_n X dX7_reviewer_113 rfl ?_
      refine zg_iload X dX7_reviewer_114 rfl ?_
      refine zg_callVi X (k_X7_standBy l D ad T _ hI _ hcl) zFr.rf gX7_reviewer_X7_standBy rfl rfl rfl qv_X7_standBy rfl ⟨Nat.le_of_ble_eq_true rfl, Nat.le_of_ble_eq_true rfl⟩ (q0 := 0) (ci := 9) rfl rfl rfl (Nat.le_of_ble_eq_true rfl) ⟨Nat.le_of_ble_eq_true rfl, Nat.le_of_ble_eq_true rfl⟩ dX7_reviewer_116 (fun r w1 hz9 => ?_)
      obtain ⟨rfl, rfl⟩ := hz9
      skip
      refine zg_istore X dX7_reviewer_119 (by decide) ?_
      refine zg_iload X dX7_reviewer_121 rfl ?_
      refine zg_iconst X (v := (-1)) dX7_reviewer_123 (by decide) ?_
      refine zg_icmp_eq X dX7_reviewer_124 (tgt := 136) (by decide) (fun c_124 => ?_) (fun c_124 => ?_)
      · skip
        have n1 : ¬ revOk (fpI σ (σ.1 0) (closeI σ g)) (σ.2.2 21 g) := fun q => q.1 c_124
        refine zg_iinc X (v := (-1)) dX7_reviewer_136 (by decide) rfl (by decide) ?_
        refine zg_goto X dX7_reviewer_139 (tgt := 59) (by decide) ?_
        refine zg_iload X dX7_reviewer_59 rfl ?_
        refine zg_aload_n X dX7_reviewer_61 rfl ?_
        refine rg_M_people X f7 l92 dX7_reviewer_62 ?_
        refine zg_icmp_ge X dX7_reviewer_65 (tgt := 142) (by decide) (fun c_65 => absurd c_65 (by rw [← zi_lt]; exact neg_lt_nI (by decide) (by omega))) (fun c_65 => ?_)
        refine zg_iload X dX7_reviewer_68 rfl ?_
        refine zg_bipush X (v := (-2)) dX7_reviewer_70 (by decide) ?_
        refine zg_icmp_ne X dX7_reviewer_72 (tgt := 79) (by decide) (fun _ => ?_) (fun q => absurd q (by decide))
        refine zg_iload X dX7_reviewer_79 rfl ?_
        refine zg_iconst X (v := (-1)) dX7_reviewer_81 (by decide) ?_
        refine zg_icmp_ne X dX7_reviewer_82 (tgt := 99) (by decide) (fun q => absurd q (by decide)) (fun _ => ?_)
        refine zg_aload_n X dX7_reviewer_85 rfl ?_
        refine rg_M_rightOwners X f7 l31 dX7_reviewer_86 ?_
        refine zg_aload_n X dX7_reviewer_89 rfl ?_
        refine rg_M_rightOf X f7 l37 dX7_reviewer_90 ?_
        refine zg_iload_n X dX7_reviewer_93 rfl ?_
        refine rlM_gRight X (by omega) dX7_reviewer_94 ?_
        refine zg_top er ?_
        refine rlM_rOwners X (by omega) dX7_reviewer_95 ?_
        refine zg_goto X dX7_reviewer_96 (tgt := 101) (by decide) ?_
        refine zg_istore X dX7_reviewer_101 (by decide) ?_
        refine zg_iload X dX7_reviewer_103 rfl ?_
        refine zg_iconst X (v := (-1)) dX7_reviewer_105 (by decide) ?_
        refine zg_icmp_ne X dX7_reviewer_106 (tgt := 113) (by decide) (fun c_106 => ?_) (fun c_106 => absurd c_106 (by obtain ⟨j9, hj9, e9⟩ := hro; rw [e9]; exact nI_m1 (by omega)))
        refine zg_aload_n X dX7_reviewer_113 rfl ?_
        refine zg_iload X dX7_reviewer_114 rfl ?_
        refine zg_callVi X (k_X7_standBy l D ad T _ hI _ (Or.inr hro)) zFr.rf gX7_reviewer_X7_standBy rfl rfl rfl qv_X7_standBy rfl ⟨Nat.le_of_ble_eq_true rfl, Nat.le_of_ble_eq_true rfl⟩ (q0 := 0) (ci := 9) rfl rfl rfl (Nat.le_of_ble_eq_true rfl) ⟨Nat.le_of_ble_eq_true rfl, Nat.le_of_ble_eq_true rfl⟩ dX7_reviewer_116 (fun r w1 hz9 => ?_)
        obtain ⟨rfl, rfl⟩ := hz9
        skip
        refine zg_istore X dX7_reviewer_119 (by decide) ?_
        refine zg_iload X dX7_reviewer_121 rfl ?_
        refine zg_iconst X (v := (-1)) dX7_reviewer_123 (by decide) ?_
        refine zg_icmp_eq X dX7_reviewer_124 (tgt := 136) (by decide) (fun c_124 => ?_) (fun c_124 => ?_)
        · skip
          have n2 : ¬ revOk (fpI σ (σ.1 0) (σ.2.2 7 r0)) (σ.2.2 21 g) := fun q => q.1 c_124
          refine zg_iinc X (v := 0) dX7_reviewer_136 (by decide) rfl (by decide) ?_
          refine zg_goto X dX7_reviewer_139 (tgt := 59) (by decide) ?_
          have LP59 : ∀ (fu : Nat) (i : Nat), σ.1 0 + 1 ≤ i + fu → i ≤ σ.1 0 → (∀ a, a < i → ¬ revOk (fpI σ (σ.1 0) (nI a)) (σ.2.2 21 g)) → zG p l e (headSpec wsX7_reviewer ({ frames := 2, cells := 0, slots := 0, locals := 44 })).room s m [.ref (ad 0), .int (nI g)].toArray below meth c D 7 A 0 0 (MQ below (qI D (zT T) (fun v0 w => v0 = revI σ g ∧ w = wM ad T (σ)) A) [.ref (ad 0), .int (nI g)].toArray s 0 0 A) (wM ad T σ) 59 [(0, .ref (ad 0)), (1, .int (nI g)), (2, .int (σ.2.2 21 g)), (3, .int (closeI σ g)), (4, .int (nI i))] [] := by
            intro fu
            induction fu with
            | zero => intro i hfu hii _; exact absurd hfu (by omega)
            | succ fu ih59 =>
              intro i hfu hii hq
              refine zg_iload X dX7_reviewer_59 rfl ?_
              refine zg_aload_n X dX7_reviewer_61 rfl ?_
              refine rg_M_people X f7 l92 dX7_reviewer_62 ?_
              refine zg_icmpn_ge X dX7_reviewer_65 (tgt := 142) (by decide) (a := i) (b := σ.1 0) (by omega) (by omega) (fun c_65 => ?_) (fun c_65 => ?_)
              · skip
                refine zg_iconst X (v := (-1)) dX7_reviewer_142 (by decide) ?_
                exact zg_iret X hr dX7_reviewer_143 (Nat.le_of_ble_eq_true rfl) (Nat.le_of_ble_eq_true rfl) (⟨by rw [revI, if_neg n1, er, ix_nI (by omega), if_neg n2, revL_none (fun a ha => hq a (by omega))], rfl⟩)
              · skip
                refine zg_iload X dX7_reviewer_68 rfl ?_
                refine zg_bipush X (v := (-2)) dX7_reviewer_70 (by decide) ?_
                refine zg_icmp_ne X dX7_reviewer_72 (tgt := 79) (by decide) (fun c_72 => ?_) (fun c_72 => absurd c_72 (nI_neg (by decide) (by omega)))
                refine zg_iload X dX7_reviewer_79 rfl ?_
                refine zg_iconst X (v := (-1)) dX7_reviewer_81 (by decide) ?_
                refine zg_icmp_ne X dX7_reviewer_82 (tgt := 99) (by decide) (fun c_82 => ?_) (fun c_82 => absurd c_82 (nI_m1 (by omega)))
                refine zg_iload X dX7_reviewer_99 rfl ?_
                refine zg_istore X dX7_reviewer_101 (by decide) ?_
                refine zg_iload X dX7_reviewer_103 rfl ?_
                refine zg_iconst X (v := (-1)) dX7_reviewer_105 (by decide) ?_
                refine zg_icmp_ne X dX7_reviewer_106 (tgt := 113) (by decide) (fun c_106 => ?_) (fun c_106 => absurd c_106 (nI_m1 (by omega)))
                refine zg_aload_n X dX7_reviewer_113 rfl ?_
                refine zg_iload X dX7_reviewer_114 rfl ?_
                refine zg_callVi X (k_X7_standBy l D ad T _ hI _ (Or.inr ⟨i, by omega, rfl⟩)) zFr.rf gX7_reviewer_X7_standBy rfl rfl rfl qv_X7_standBy rfl ⟨Nat.le_of_ble_eq_true rfl, Nat.le_of_ble_eq_true rfl⟩ (q0 := 0) (ci := 9) rfl rfl rfl (Nat.le_of_ble_eq_true rfl) ⟨Nat.le_of_ble_eq_true rfl, Nat.le_of_ble_eq_true rfl⟩ dX7_reviewer_116 (fun r w1 hz9 => ?_)
                obtain ⟨rfl, rfl⟩ := hz9
                skip
                refine zg_istore X dX7_reviewer_119 (by decide) ?_
                refine zg_iload X dX7_reviewer_121 rfl ?_
                refine zg_iconst X (v := (-1)) dX7_reviewer_123 (by decide) ?_
                refine zg_icmp_eq X dX7_reviewer_124 (tgt := 136) (by decide) (fun c_124 => ?_) (fun c_124 => ?_)
                · skip
                  skip
                  refine zg_iinc1 X dX7_reviewer_136 (by decide) rfl ?_
                  refine zg_goto X dX7_reviewer_139 (tgt := 59) (by decide) ?_
                  exact zg_lv (by exact ⟨rfl, rfl, rfl, rfl, rfl, trivial⟩) (ih59 (i + 1) (by omega) (by omega) (lt_s hq (fun h => h.1 c_124)))
                · skip
                  refine zg_iload X dX7_reviewer_127 rfl ?_
                  refine zg_iload_n X dX7_reviewer_129 rfl ?_
                  refine zg_icmp_eq X dX7_reviewer_130 (tgt := 136) (by decide) (fun c_130 => ?_) (fun c_130 => ?_)
                  · skip
                    skip
                    refine zg_iinc1 X dX7_reviewer_136 (by decide) rfl ?_
                    refine zg_goto X dX7_reviewer_139 (tgt := 59) (by decide) ?_
                    exact zg_lv (by exact ⟨rfl, rfl, rfl, rfl, rfl, trivial⟩) (ih59 (i + 1) (by omega) (by omega) (lt_s hq (fun h => h.2 c_130)))
                  · skip
                    refine zg_iload X dX7_reviewer_133 rfl ?_
                    exact zg_iret X hr dX7_reviewer_135 (Nat.le_of_ble_eq_true rfl) (Nat.le_of_ble_eq_true rfl) (⟨by rw [revI, if_neg n1, er, ix_nI (by omega), if_neg n2, revL_some (by omega) ⟨c_124, c_130⟩ hq], rfl⟩)
          exact zg_lv (by exact ⟨rfl, rfl, rfl, rfl, rfl, trivial⟩) (LP59 (σ.1 0 + 1) 0 (by omega) (by omega) (fun a ha => absurd ha (Nat.not_lt_zero a)))
        · skip
          refine zg_iload X dX7_reviewer_127 rfl ?_
          refine zg_iload_n X dX7_reviewer_129 rfl ?_
          refine zg_icmp_eq X dX7_reviewer_130 (tgt := 136) (by decide) (fun c_130 => ?_) (fun c_130 => ?_)
          · skip
            have n2 : ¬ revOk (fpI σ (σ.1 0) (σ.2.2 7 r0)) (σ.2.2 21 g) := fun q => q.2 c_130
            refine zg_iinc X (v := 0) dX7_reviewer_136 (by decide) rfl (by decide) ?_
            refine zg_goto X dX7_reviewer_139 (tgt := 59) (by decide) ?_
            have LP59 : ∀ (fu : Nat) (i : Nat), σ.1 0 + 1 ≤ i + fu → i ≤ σ.1 0 → (∀ a, a < i → ¬ revOk (fpI σ (σ.1 0) (nI a)) (σ.2.2 21 g)) → zG p l e (headSpec wsX7_reviewer ({ frames := 2, cells := 0, slots := 0, locals := 44 })).room s m [.ref (ad 0), .int (nI g)].toArray below meth c D 7 A 0 0 (MQ below (qI D (zT T) (fun v0 w => v0 = revI σ g ∧ w = wM ad T (σ)) A) [.ref (ad 0), .int (nI g)].toArray s 0 0 A) (wM ad T σ) 59 [(0, .ref (ad 0)), (1, .int (nI g)), (2, .int (σ.2.2 21 g)), (3, .int (closeI σ g)), (4, .int (nI i))] [] := by
              intro fu
              induction fu with
              | zero => intro i hfu hii _; exact absurd hfu (by omega)
              | succ fu ih59 =>
                intro i hfu hii hq
                refine zg_iload X dX7_reviewer_59 rfl ?_
                refine zg_aload_n X dX7_reviewer_61 rfl ?_
                refine rg_M_people X f7 l92 dX7_reviewer_62 ?_
                refine zg_icmpn_ge X dX7_reviewer_65 (tgt := 142) (by decide) (a := i) (b := σ.1 0) (by omega) (by omega) (fun c_65 => ?_) (fun c_65 => ?_)
                · skip
                  refine zg_iconst X (v := (-1)) dX7_reviewer_142 (by decide) ?_
                  exact zg_iret X hr dX7_reviewer_143 (Nat.le_of_ble_eq_true rfl) (Nat.le_of_ble_eq_true rfl) (⟨by rw [revI, if_neg n1, er, ix_nI (by omega), if_neg n2, revL_none (fun a ha => hq a (by omega))], rfl⟩)
                · skip
                  refine zg_iload X dX7_reviewer_68 rfl ?_
                  refine zg_bipush X (v := (-2)) dX7_reviewer_70 (by decide) ?_
                  refine zg_icmp_ne X dX7_reviewer_72 (tgt := 79) (by decide) (fun c_72 => ?_) (fun c_72 => absurd c_72 (nI_neg (by decide) (by omega)))
                  refine zg_iload X dX7_reviewer_79 rfl ?_
                  refine zg_iconst X (v := (-1)) dX7_reviewer_81 (by decide) ?_
                  refine zg_icmp_ne X dX7_reviewer_82 (tgt := 99) (by decide) (fun c_82 => ?_) (fun c_82 => absurd c_82 (nI_m1 (by omega)))
                  refine zg_iload X dX7_reviewer_99 rfl ?_
                  refine zg_istore X dX7_reviewer_101 (by decide) ?_
                  refine zg_iload X dX7_reviewer_103 rfl ?_
                  refine zg_iconst X (v := (-1)) dX7_reviewer_105 (by decide) ?_
                  refine zg_icmp_ne X dX7_reviewer_106 (tgt := 113) (by decide) (fun c_106 => ?_) (fun c_106 => absurd c_106 (nI_m1 (by omega)))
                  refine zg_aload_n X dX7_reviewer_113 rfl ?_
                  refine zg_iload X dX7_reviewer_114 rfl ?_
                  refine zg_callVi X (k_X7_standBy l D ad T _ hI _ (Or.inr ⟨i, by omega, rfl⟩)) zFr.rf gX7_reviewer_X7_standBy rfl rfl rfl qv_X7_standBy rfl ⟨Nat.le_of_ble_eq_true rfl, Nat.le_of_ble_eq_true rfl⟩ (q0 := 0) (ci := 9) rfl rfl rfl (Nat.le_of_ble_eq_true rfl) ⟨Nat.le_of_ble_eq_true rfl, Nat.le_of_ble_eq_true rfl⟩ dX7_reviewer_116 (fun r w1 hz9 => ?_)
                  obtain ⟨rfl, rfl⟩ := hz9
                  skip
                  refine zg_istore X dX7_reviewer_119 (by decide) ?_
                  refine zg_iload X dX7_reviewer_121 rfl ?_
                  refine zg_iconst X (v := (-1)) dX7_reviewer_123 (by decide) ?_
                  refine zg_icmp_eq X dX7_reviewer_124 (tgt := 136) (by decide) (fun c_124 => ?_) (fun c_124 => ?_)
                  · skip
                    skip
                    refine zg_iinc1 X dX7_reviewer_136 (by decide) rfl ?_
                    refine zg_goto X dX7_reviewer_139 (tgt := 59) (by decide) ?_
                    exact zg_lv (by exact ⟨rfl, rfl, rfl, rfl, rfl, trivial⟩) (ih59 (i + 1) (by omega) (by omega) (lt_s hq (fun h => h.1 c_124)))
                  · skip
                    refine zg_iload X dX7_reviewer_127 rfl ?_
                    refine zg_iload_n X dX7_reviewer_129 rfl ?_
                    refine zg_icmp_eq X dX7_reviewer_130 (tgt := 136) (by decide) (fun c_130 => ?_) (fun c_130 => ?_)
                    · skip
                      skip
                      refine zg_iinc1 X dX7_reviewer_136 (by decide) rfl ?_
                      refine zg_goto X dX7_reviewer_139 (tgt := 59) (by decide) ?_
                      exact zg_lv (by exact ⟨rfl, rfl, rfl, rfl, rfl, trivial⟩) (ih59 (i + 1) (by omega) (by omega) (lt_s hq (fun h => h.2 c_130)))
                    · skip
                      refine zg_iload X dX7_reviewer_133 rfl ?_
                      exact zg_iret X hr dX7_reviewer_135 (Nat.le_of_ble_eq_true rfl) (Nat.le_of_ble_eq_true rfl) (⟨by rw [revI, if_neg n1, er, ix_nI (by omega), if_neg n2, revL_some (by omega) ⟨c_124, c_130⟩ hq], rfl⟩)
            exact zg_lv (by exact ⟨rfl, rfl, rfl, rfl, rfl, trivial⟩) (LP59 (σ.1 0 + 1) 0 (by omega) (by omega) (fun a ha => absurd ha (Nat.not_lt_zero a)))
          · skip
            refine zg_iload X dX7_reviewer_133 rfl ?_
            exact zg_iret X hr dX7_reviewer_135 (Nat.le_of_ble_eq_true rfl) (Nat.le_of_ble_eq_true rfl) (⟨by rw [revI, if_neg n1, er, ix_nI (by omega), if_pos ⟨c_124, c_130⟩], rfl⟩)
      · skip
        refine zg_iload X dX7_reviewer_127 rfl ?_
        refine zg_iload_n X dX7_reviewer_129 rfl ?_
        refine zg_icmp_eq X dX7_reviewer_130 (tgt := 136) (by decide) (fun c_130 => ?_) (fun c_130 => ?_)
        · skip
          have n1 : ¬ revOk (fpI σ (σ.1 0) (closeI σ g)) (σ.2.2 21 g) := fun q => q.2 c_130
          refine zg_iinc X (v := (-1)) dX7_reviewer_136 (by decide) rfl (by decide) ?_
          refine zg_goto X dX7_reviewer_139 (tgt := 59) (by decide) ?_
          refine zg_iload X dX7_reviewer_59 rfl ?_
          refine zg_aload_n X dX7_reviewer_61 rfl ?_
          refine rg_M_people X f7 l92 dX7_reviewer_62 ?_
          refine zg_icmp_ge X dX7_reviewer_65 (tgt := 142) (by decide) (fun c_65 => absurd c_65 (by rw [← zi_lt]; exact neg_lt_nI (by decide) (by omega))) (fun c_65 => ?_)
          refine zg_iload X dX7_reviewer_68 rfl ?_
          refine zg_bipush X (v := (-2)) dX7_reviewer_70 (by decide) ?_
          refine zg_icmp_ne X dX7_reviewer_72 (tgt := 79) (by decide) (fun _ => ?_) (fun q => absurd q (by decide))
          refine zg_iload X dX7_reviewer_79 rfl ?_
          refine zg_iconst X (v := (-1)) dX7_reviewer_81 (by decide) ?_
          refine zg_icmp_ne X dX7_reviewer_82 (tgt := 99) (by decide) (fun q => absurd q (by decide)) (fun _ => ?_)
          refine zg_aload_n X dX7_reviewer_85 rfl ?_
          refine rg_M_rightOwners X f7 l31 dX7_reviewer_86 ?_
          refine zg_aload_n X dX7_reviewer_89 rfl ?_
          refine rg_M_rightOf X f7 l37 dX7_reviewer_90 ?_
          refine zg_iload_n X dX7_reviewer_93 rfl ?_
          refine rlM_gRight X (by omega) dX7_reviewer_94 ?_
          refine zg_top er ?_
          refine rlM_rOwners X (by omega) dX7_reviewer_95 ?_
          refine zg_goto X dX7_reviewer_96 (tgt := 101) (by decide) ?_
          refine zg_istore X dX7_reviewer_101 (by decide) ?_
          refine zg_iload X dX7_reviewer_103 rfl ?_
          refine zg_iconst X (v := (-1)) dX7_reviewer_105 (by decide) ?_
          refine zg_icmp_ne X dX7_reviewer_106 (tgt := 113) (by decide) (fun c_106 => ?_) (fun c_106 => absurd c_106 (by obtain ⟨j9, hj9, e9⟩ := hro; rw [e9]; exact nI_m1 (by omega)))
          refine zg_aload_n X dX7_reviewer_113 rfl ?_
          refine zg_iload X dX7_reviewer_114 rfl ?_
          refine zg_callVi X (k_X7_standBy l D ad T _ hI _ (Or.inr hro)) zFr.rf gX7_reviewer_X7_standBy rfl rfl rfl qv_X7_standBy rfl ⟨Nat.le_of_ble_eq_true rfl, Nat.le_of_ble_eq_true rfl⟩ (q0 := 0) (ci := 9) rfl rfl rfl (Nat.le_of_ble_eq_true rfl) ⟨Nat.le_of_ble_eq_true rfl, Nat.le_of_ble_eq_true rfl⟩ dX7_reviewer_116 (fun r w1 hz9 => ?_)
          obtain ⟨rfl, rfl⟩ := hz9
          skip
          refine zg_istore X dX7_reviewer_119 (by decide) ?_
          refine zg_iload X dX7_reviewer_121 rfl ?_
          refine zg_iconst X (v := (-1)) dX7_reviewer_123 (by decide) ?_
          refine zg_icmp_eq X dX7_reviewer_124 (tgt := 136) (by decide) (fun c_124 => ?_) (fun c_124 => ?_)
          · skip
            have n2 : ¬ revOk (fpI σ (σ.1 0) (σ.2.2 7 r0)) (σ.2.2 21 g) := fun q => q.1 c_124
            refine zg_iinc X (v := 0) dX7_reviewer_136 (by decide) rfl (by decide) ?_
            refine zg_goto X dX7_reviewer_139 (tgt := 59) (by decide) ?_
            have LP59 : ∀ (fu : Nat) (i : Nat), σ.1 0 + 1 ≤ i + fu → i ≤ σ.1 0 → (∀ a, a < i → ¬ revOk (fpI σ (σ.1 0) (nI a)) (σ.2.2 21 g)) → zG p l e (headSpec wsX7_reviewer ({ frames := 2, cells := 0, slots := 0, locals := 44 })).room s m [.ref (ad 0), .int (nI g)].toArray below meth c D 7 A 0 0 (MQ below (qI D (zT T) (fun v0 w => v0 = revI σ g ∧ w = wM ad T (σ)) A) [.ref (ad 0), .int (nI g)].toArray s 0 0 A) (wM ad T σ) 59 [(0, .ref (ad 0)), (1, .int (nI g)), (2, .int (σ.2.2 21 g)), (3, .int (closeI σ g)), (4, .int (nI i))] [] := by
              intro fu
              induction fu with
              | zero => intro i hfu hii _; exact absurd hfu (by omega)
              | succ fu ih59 =>
                intro i hfu hii hq
                refine zg_iload X dX7_reviewer_59 rfl ?_
                refine zg_aload_n X dX7_reviewer_61 rfl ?_
                refine rg_M_people X f7 l92 dX7_reviewer_62 ?_
                refine zg_icmpn_ge X dX7_reviewer_65 (tgt := 142) (by decide) (a := i) (b := σ.1 0) (by omega) (by omega) (fun c_65 => ?_) (fun c_65 => ?_)
                · skip
                  refine zg_iconst X (v := (-1)) dX7_reviewer_142 (by decide) ?_
                  exact zg_iret X hr dX7_reviewer_143 (Nat.le_of_ble_eq_true rfl) (Nat.le_of_ble_eq_true rfl) (⟨by rw [revI, if_neg n1, er, ix_nI (by omega), if_neg n2, revL_none (fun a ha => hq a (by omega))], rfl⟩)
                · skip
                  refine zg_iload X dX7_reviewer_68 rfl ?_
                  refine zg_bipush X (v := (-2)) dX7_reviewer_70 (by decide) ?_
                  refine zg_icmp_ne X dX7_reviewer_72 (tgt := 79) (by decide) (fun c_72 => ?_) (fun c_72 => absurd c_72 (nI_neg (by decide) (by omega)))
                  refine zg_iload X dX7_reviewer_79 rfl ?_
                  refine zg_iconst X (v := (-1)) dX7_reviewer_81 (by decide) ?_
                  refine zg_icmp_ne X dX7_reviewer_82 (tgt := 99) (by decide) (fun c_82 => ?_) (fun c_82 => absurd c_82 (nI_m1 (by omega)))
                  refine zg_iload X dX7_reviewer_99 rfl ?_
                  refine zg_istore X dX7_reviewer_101 (by decide) ?_
                  refine zg_iload X dX7_reviewer_103 rfl ?_
                  refine zg_iconst X (v := (-1)) dX7_reviewer_105 (by decide) ?_
                  refine zg_icmp_ne X dX7_reviewer_106 (tgt := 113) (by decide) (fun c_106 => ?_) (fun c_106 => absurd c_106 (nI_m1 (by omega)))
                  refine zg_aload_n X dX7_reviewer_113 rfl ?_
                  refine zg_iload X dX7_reviewer_114 rfl ?_
                  refine zg_callVi X (k_X7_standBy l D ad T _ hI _ (Or.inr ⟨i, by omega, rfl⟩)) zFr.rf gX7_reviewer_X7_standBy rfl rfl rfl qv_X7_standBy rfl ⟨Nat.le_of_ble_eq_true rfl, Nat.le_of_ble_eq_true rfl⟩ (q0 := 0) (ci := 9) rfl rfl rfl (Nat.le_of_ble_eq_true rfl) ⟨Nat.le_of_ble_eq_true rfl, Nat.le_of_ble_eq_true rfl⟩ dX7_reviewer_116 (fun r w1 hz9 => ?_)
                  obtain ⟨rfl, rfl⟩ := hz9
                  skip
                  refine zg_istore X dX7_reviewer_119 (by decide) ?_
                  refine zg_iload X dX7_reviewer_121 rfl ?_
                  refine zg_iconst X (v := (-1)) dX7_reviewer_123 (by decide) ?_
                  refine zg_icmp_eq X dX7_reviewer_124 (tgt := 136) (by decide) (fun c_124 => ?_) (fun c_124 => ?_)
                  · skip
                    skip
                    refine zg_iinc1 X dX7_reviewer_136 (by decide) rfl ?_
                    refine zg_goto X dX7_reviewer_139 (tgt := 59) (by decide) ?_
                    exact zg_lv (by exact ⟨rfl, rfl, rfl, rfl, rfl, trivial⟩) (ih59 (i + 1) (by omega) (by omega) (lt_s hq (fun h => h.1 c_124)))
                  · skip
                    refine zg_iload X dX7_reviewer_127 rfl ?_
                    refine zg_iload_n X dX7_reviewer_129 rfl ?_
                    refine zg_icmp_eq X dX7_reviewer_130 (tgt := 136) (by decide) (fun c_130 => ?_) (fun c_130 => ?_)
                    · skip
                      skip
                      refine zg_iinc1 X dX7_reviewer_136 (by decide) rfl ?_
                      refine zg_goto X dX7_reviewer_139 (tgt := 59) (by decide) ?_
                      exact zg_lv (by exact ⟨rfl, rfl, rfl, rfl, rfl, trivial⟩) (ih59 (i + 1) (by omega) (by omega) (lt_s hq (fun h => h.2 c_130)))
                    · skip
                      refine zg_iload X dX7_reviewer_133 rfl ?_
                      exact zg_iret X hr dX7_reviewer_135 (Nat.le_of_ble_eq_true rfl) (Nat.le_of_ble_eq_true rfl) (⟨by rw [revI, if_neg n1, er, ix_nI (by omega), if_neg n2, revL_some (by omega) ⟨c_124, c_130⟩ hq], rfl⟩)
            exact zg_lv (by exact ⟨rfl, rfl, rfl, rfl, rfl, trivial⟩) (LP59 (σ.1 0 + 1) 0 (by omega) (by omega) (fun a ha => absurd ha (Nat.not_lt_zero a)))
          · skip
            refine zg_iload X dX7_reviewer_127 rfl ?_
            refine zg_iload_n X dX7_reviewer_129 rfl ?_
            refine zg_icmp_eq X dX7_reviewer_130 (tgt := 136) (by decide) (fun c_130 => ?_) (fun c_130 => ?_)
            · skip
              have n2 : ¬ revOk (fpI σ (σ.1 0) (σ.2.2 7 r0)) (σ.2.2 21 g) := fun q => q.2 c_130
              refine zg_iinc X (v := 0) dX7_reviewer_136 (by decide) rfl (by decide) ?_
              refine zg_goto X dX7_reviewer_139 (tgt := 59) (by decide) ?_
              have LP59 : ∀ (fu : Nat) (i : Nat), σ.1 0 + 1 ≤ i + fu → i ≤ σ.1 0 → (∀ a, a < i → ¬ revOk (fpI σ (σ.1 0) (nI a)) (σ.2.2 21 g)) → zG p l e (headSpec wsX7_reviewer ({ frames := 2, cells := 0, slots := 0, locals := 44 })).room s m [.ref (ad 0), .int (nI g)].toArray below meth c D 7 A 0 0 (MQ below (qI D (zT T) (fun v0 w => v0 = revI σ g ∧ w = wM ad T (σ)) A) [.ref (ad 0), .int (nI g)].toArray s 0 0 A) (wM ad T σ) 59 [(0, .ref (ad 0)), (1, .int (nI g)), (2, .int (σ.2.2 21 g)), (3, .int (closeI σ g)), (4, .int (nI i))] [] := by
                intro fu
                induction fu with
                | zero => intro i hfu hii _; exact absurd hfu (by omega)
                | succ fu ih59 =>
                  intro i hfu hii hq
                  refine zg_iload X dX7_reviewer_59 rfl ?_
                  refine zg_aload_n X dX7_reviewer_61 rfl ?_
                  refine rg_M_people X f7 l92 dX7_reviewer_62 ?_
                  refine zg_icmpn_ge X dX7_reviewer_65 (tgt := 142) (by decide) (a := i) (b := σ.1 0) (by omega) (by omega) (fun c_65 => ?_) (fun c_65 => ?_)
                  · skip
                    refine zg_iconst X (v := (-1)) dX7_reviewer_142 (by decide) ?_
                    exact zg_iret X hr dX7_reviewer_143 (Nat.le_of_ble_eq_true rfl) (Nat.le_of_ble_eq_true rfl) (⟨by rw [revI, if_neg n1, er, ix_nI (by omega), if_neg n2, revL_none (fun a ha => hq a (by omega))], rfl⟩)
                  · skip
                    refine zg_iload X dX7_reviewer_68 rfl ?_
                    refine zg_bipush X (v := (-2)) dX7_reviewer_70 (by decide) ?_
                    refine zg_icmp_ne X dX7_reviewer_72 (tgt := 79) (by decide) (fun c_72 => ?_) (fun c_72 => absurd c_72 (nI_neg (by decide) (by omega)))
                    refine zg_iload X dX7_reviewer_79 rfl ?_
                    refine zg_iconst X (v := (-1)) dX7_reviewer_81 (by decide) ?_
                    refine zg_icmp_ne X dX7_reviewer_82 (tgt := 99) (by decide) (fun c_82 => ?_) (fun c_82 => absurd c_82 (nI_m1 (by omega)))
                    refine zg_iload X dX7_reviewer_99 rfl ?_
                    refine zg_istore X dX7_reviewer_101 (by decide) ?_
                    refine zg_iload X dX7_reviewer_103 rfl ?_
                    refine zg_iconst X (v := (-1)) dX7_reviewer_105 (by decide) ?_
                    refine zg_icmp_ne X dX7_reviewer_106 (tgt := 113) (by decide) (fun c_106 => ?_) (fun c_106 => absurd c_106 (nI_m1 (by omega)))
                    refine zg_aload_n X dX7_reviewer_113 rfl ?_
                    refine zg_iload X dX7_reviewer_114 rfl ?_
                    refine zg_callVi X (k_X7_standBy l D ad T _ hI _ (Or.inr ⟨i, by omega, rfl⟩)) zFr.rf gX7_reviewer_X7_standBy rfl rfl rfl qv_X7_standBy rfl ⟨Nat.le_of_ble_eq_true rfl, Nat.le_of_ble_eq_true rfl⟩ (q0 := 0) (ci := 9) rfl rfl rfl (Nat.le_of_ble_eq_true rfl) ⟨Nat.le_of_ble_eq_true rfl, Nat.le_of_ble_eq_true rfl⟩ dX7_reviewer_116 (fun r w1 hz9 => ?_)
                    obtain ⟨rfl, rfl⟩ := hz9
                    skip
                    refine zg_istore X dX7_reviewer_119 (by decide) ?_
                    refine zg_iload X dX7_reviewer_121 rfl ?_
                    refine zg_iconst X (v := (-1)) dX7_reviewer_123 (by decide) ?_
                    refine zg_icmp_eq X dX7_reviewer_124 (tgt := 136) (by decide) (fun c_124 => ?_) (fun c_124 => ?_)
                    · skip
                      skip
                      refine zg_iinc1 X dX7_reviewer_136 (by decide) rfl ?_
                      refine zg_goto X dX7_reviewer_139 (tgt := 59) (by decide) ?_
                      exact zg_lv (by exact ⟨rfl, rfl, rfl, rfl, rfl, trivial⟩) (ih59 (i + 1) (by omega) (by omega) (lt_s hq (fun h => h.1 c_124)))
                    · skip
                      refine zg_iload X dX7_reviewer_127 rfl ?_
                      refine zg_iload_n X dX7_reviewer_129 rfl ?_
                      refine zg_icmp_eq X dX7_reviewer_130 (tgt := 136) (by decide) (fun c_130 => ?_) (fun c_130 => ?_)
                      · skip
                        skip
                        refine zg_iinc1 X dX7_reviewer_136 (by decide) rfl ?_
                        refine zg_goto X dX7_reviewer_139 (tgt := 59) (by decide) ?_
                        exact zg_lv (by exact ⟨rfl, rfl, rfl, rfl, rfl, trivial⟩) (ih59 (i + 1) (by omega) (by omega) (lt_s hq (fun h => h.2 c_130)))
                      · skip
                        refine zg_iload X dX7_reviewer_133 rfl ?_
                        exact zg_iret X hr dX7_reviewer_135 (Nat.le_of_ble_eq_true rfl) (Nat.le_of_ble_eq_true rfl) (⟨by rw [revI, if_neg n1, er, ix_nI (by omega), if_neg n2, revL_some (by omega) ⟨c_124, c_130⟩ hq], rfl⟩)
              exact zg_lv (by exact ⟨rfl, rfl, rfl, rfl, rfl, trivial⟩) (LP59 (σ.1 0 + 1) 0 (by omega) (by omega) (fun a ha => absurd ha (Nat.not_lt_zero a)))
            · skip
              refine zg_iload X dX7_reviewer_133 rfl ?_
              exact zg_iret X hr dX7_reviewer_135 (Nat.le_of_ble_eq_true rfl) (Nat.le_of_ble_eq_true rfl) (⟨by rw [revI, if_neg n1, er, ix_nI (by omega), if_pos ⟨c_124, c_130⟩], rfl⟩)
        · skip
          refine zg_iload X dX7_reviewer_133 rfl ?_
          exact zg_iret X hr dX7_reviewer_135 (Nat.le_of_ble_eq_true rfl) (Nat.le_of_ble_eq_true rfl) (⟨by rw [revI, if_pos ⟨c_124, c_130⟩], rfl⟩)
    · skip
      refine zg_iconst X (v := (-1)) dX7_reviewer_109 (by decide) ?_
      refine zg_goto X dX7_reviewer_110 (tgt := 119) (by decide) ?_
      refine zg_top (v' := fpI σ (σ.1 0) (closeI σ g)) (by rw [c_106, fpI_m1]) ?_
      refine zg_istore X dX7_reviewer_119 (by decide) ?_
      refine zg_iload X dX7_reviewer_121 rfl ?_
      refine zg_iconst X (v := (-1)) dX7_reviewer_123 (by decide) ?_
      refine zg_icmp_eq X dX7_reviewer_124 (tgt := 136) (by decide) (fun c_124 => ?_) (fun c_124 => ?_)
      · skip
        have n1 : ¬ revOk (fpI σ (σ.1 0) (closeI σ g)) (σ.2.2 21 g) := fun q => q.1 c_124
        refine zg_iinc X (v := (-1)) dX7_reviewer_136 (by decide) rfl (by decide) ?_
        refine zg_goto X dX7_reviewer_139 (tgt := 59) (by decide) ?_
        refine zg_iload X dX7_reviewer_59 rfl ?_
        refine zg_aload_n X dX7_reviewer_61 rfl ?_
        refine rg_M_people X f7 l92 dX7_reviewer_62 ?_
        refine zg_icmp_ge X dX7_reviewer_65 (tgt := 142) (by decide) (fun c_65 => absurd c_65 (by rw [← zi_lt]; exact neg_lt_nI (by decide) (by omega))) (fun c_65 => ?_)
        refine zg_iload X dX7_reviewer_68 rfl ?_
        refine zg_bipush X (v := (-2)) dX7_reviewer_70 (by decide) ?_
        refine zg_icmp_ne X dX7_reviewer_72 (tgt := 79) (by decide) (fun _ => ?_) (fun q => absurd q (by decide))
        refine zg_iload X dX7_reviewer_79 rfl ?_
        refine zg_iconst X (v := (-1)) dX7_reviewer_81 (by decide) ?_
        refine zg_icmp_ne X dX7_reviewer_82 (tgt := 99) (by decide) (fun q => absurd q (by decide)) (fun _ => ?_)
        refine zg_aload_n X dX7_reviewer_85 rfl ?_
        refine rg_M_rightOwners X f7 l31 dX7_reviewer_86 ?_
        refine zg_aload_n X dX7_reviewer_89 rfl ?_
        refine rg_M_rightOf X f7 l37 dX7_reviewer_90 ?_
        refine zg_iload_n X dX7_reviewer_93 rfl ?_
        refine rlM_gRight X (by omega) dX7_reviewer_94 ?_
        refine zg_top er ?_
        refine rlM_rOwners X (by omega) dX7_reviewer_95 ?_
        refine zg_goto X dX7_reviewer_96 (tgt := 101) (by decide) ?_
        refine zg_istore X dX7_reviewer_101 (by decide) ?_
        refine zg_iload X dX7_reviewer_103 rfl ?_
        refine zg_iconst X (v := (-1)) dX7_reviewer_105 (by decide) ?_
        refine zg_icmp_ne X dX7_reviewer_106 (tgt := 113) (by decide) (fun c_106 => ?_) (fun c_106 => absurd c_106 (by obtain ⟨j9, hj9, e9⟩ := hro; rw [e9]; exact nI_m1 (by omega)))
        refine zg_aload_n X dX7_reviewer_113 rfl ?_
        refine zg_iload X dX7_reviewer_114 rfl ?_
        refine zg_callVi X (k_X7_standBy l D ad T _ hI _ (Or.inr hro)) zFr.rf gX7_reviewer_X7_standBy rfl rfl rfl qv_X7_standBy rfl ⟨Nat.le_of_ble_eq_true rfl, Nat.le_of_ble_eq_true rfl⟩ (q0 := 0) (ci := 9) rfl rfl rfl (Nat.le_of_ble_eq_true rfl) ⟨Nat.le_of_ble_eq_true rfl, Nat.le_of_ble_eq_true rfl⟩ dX7_reviewer_116 (fun r w1 hz9 => ?_)
        obtain ⟨rfl, rfl⟩ := hz9
        skip
        refine zg_istore X dX7_reviewer_119 (by decide) ?_
        refine zg_iload X dX7_reviewer_121 rfl ?_
        refine zg_iconst X (v := (-1)) dX7_reviewer_123 (by decide) ?_
        refine zg_icmp_eq X dX7_reviewer_124 (tgt := 136) (by decide) (fun c_124 => ?_) (fun c_124 => ?_)
        · skip
          have n2 : ¬ revOk (fpI σ (σ.1 0) (σ.2.2 7 r0)) (σ.2.2 21 g) := fun q => q.1 c_124
          refine zg_iinc X (v := 0) dX7_reviewer_136 (by decide) rfl (by decide) ?_
          refine zg_goto X dX7_reviewer_139 (tgt := 59) (by decide) ?_
          have LP59 : ∀ (fu : Nat) (i : Nat), σ.1 0 + 1 ≤ i + fu → i ≤ σ.1 0 → (∀ a, a < i → ¬ revOk (fpI σ (σ.1 0) (nI a)) (σ.2.2 21 g)) → zG p l e (headSpec wsX7_reviewer ({ frames := 2, cells := 0, slots := 0, locals := 44 })).room s m [.ref (ad 0), .int (nI g)].toArray below meth c D 7 A 0 0 (MQ below (qI D (zT T) (fun v0 w => v0 = revI σ g ∧ w = wM ad T (σ)) A) [.ref (ad 0), .int (nI g)].toArray s 0 0 A) (wM ad T σ) 59 [(0, .ref (ad 0)), (1, .int (nI g)), (2, .int (σ.2.2 21 g)), (3, .int (closeI σ g)), (4, .int (nI i))] [] := by
            intro fu
            induction fu with
            | zero => intro i hfu hii _; exact absurd hfu (by omega)
            | succ fu ih59 =>
              intro i hfu hii hq
              refine zg_iload X dX7_reviewer_59 rfl ?_
              refine zg_aload_n X dX7_reviewer_61 rfl ?_
              refine rg_M_people X f7 l92 dX7_reviewer_62 ?_
              refine zg_icmpn_ge X dX7_reviewer_65 (tgt := 142) (by decide) (a := i) (b := σ.1 0) (by omega) (by omega) (fun c_65 => ?_) (fun c_65 => ?_)
              · skip
                refine zg_iconst X (v := (-1)) dX7_reviewer_142 (by decide) ?_
                exact zg_iret X hr dX7_reviewer_143 (Nat.le_of_ble_eq_true rfl) (Nat.le_of_ble_eq_true rfl) (⟨by rw [revI, if_neg n1, er, ix_nI (by omega), if_neg n2, revL_none (fun a ha => hq a (by omega))], rfl⟩)
              · skip
                refine zg_iload X dX7_reviewer_68 rfl ?_
                refine zg_bipush X (v := (-2)) dX7_reviewer_70 (by decide) ?_
                refine zg_icmp_ne X dX7_reviewer_72 (tgt := 79) (by decide) (fun c_72 => ?_) (fun c_72 => absurd c_72 (nI_neg (by decide) (by omega)))
                refine zg_iload X dX7_reviewer_79 rfl ?_
                refine zg_iconst X (v := (-1)) dX7_reviewer_81 (by decide) ?_
                refine zg_icmp_ne X dX7_reviewer_82 (tgt := 99) (by decide) (fun c_82 => ?_) (fun c_82 => absurd c_82 (nI_m1 (by omega)))
                refine zg_iload X dX7_reviewer_99 rfl ?_
                refine zg_istore X dX7_reviewer_101 (by decide) ?_
                refine zg_iload X dX7_reviewer_103 rfl ?_
                refine zg_iconst X (v := (-1)) dX7_reviewer_105 (by decide) ?_
                refine zg_icmp_ne X dX7_reviewer_106 (tgt := 113) (by decide) (fun c_106 => ?_) (fun c_106 => absurd c_106 (nI_m1 (by omega)))
                refine zg_aload_n X dX7_reviewer_113 rfl ?_
                refine zg_iload X dX7_reviewer_114 rfl ?_
                refine zg_callVi X (k_X7_standBy l D ad T _ hI _ (Or.inr ⟨i, by omega, rfl⟩)) zFr.rf gX7_reviewer_X7_standBy rfl rfl rfl qv_X7_standBy rfl ⟨Nat.le_of_ble_eq_true rfl, Nat.le_of_ble_eq_true rfl⟩ (q0 := 0) (ci := 9) rfl rfl rfl (Nat.le_of_ble_eq_true rfl) ⟨Nat.le_of_ble_eq_true rfl, Nat.le_of_ble_eq_true rfl⟩ dX7_reviewer_116 (fun r w1 hz9 => ?_)
                obtain ⟨rfl, rfl⟩ := hz9
                skip
                refine zg_istore X dX7_reviewer_119 (by decide) ?_
                refine zg_iload X dX7_reviewer_121 rfl ?_
                refine zg_iconst X (v := (-1)) dX7_reviewer_123 (by decide) ?_
                refine zg_icmp_eq X dX7_reviewer_124 (tgt := 136) (by decide) (fun c_124 => ?_) (fun c_124 => ?_)
                · skip
                  skip
                  refine zg_iinc1 X dX7_reviewer_136 (by decide) rfl ?_
                  refine zg_goto X dX7_reviewer_139 (tgt := 59) (by decide) ?_
                  exact zg_lv (by exact ⟨rfl, rfl, rfl, rfl, rfl, trivial⟩) (ih59 (i + 1) (by omega) (by omega) (lt_s hq (fun h => h.1 c_124)))
                · skip
                  refine zg_iload X dX7_reviewer_127 rfl ?_
                  refine zg_iload_n X dX7_reviewer_129 rfl ?_
                  refine zg_icmp_eq X dX7_reviewer_130 (tgt := 136) (by decide) (fun c_130 => ?_) (fun c_130 => ?_)
                  · skip
                    skip
                    refine zg_iinc1 X dX7_reviewer_136 (by decide) rfl ?_
                    refine zg_goto X dX7_reviewer_139 (tgt := 59) (by decide) ?_
                    exact zg_lv (by exact ⟨rfl, rfl, rfl, rfl, rfl, trivial⟩) (ih59 (i + 1) (by omega) (by omega) (lt_s hq (fun h => h.2 c_130)))
                  · skip
                    refine zg_iload X dX7_reviewer_133 rfl ?_
                    exact zg_iret X hr dX7_reviewer_135 (Nat.le_of_ble_eq_true rfl) (Nat.le_of_ble_eq_true rfl) (⟨by rw [revI, if_neg n1, er, ix_nI (by omega), if_neg n2, revL_some (by omega) ⟨c_124, c_130⟩ hq], rfl⟩)
          exact zg_lv (by exact ⟨rfl, rfl, rfl, rfl, rfl, trivial⟩) (LP59 (σ.1 0 + 1) 0 (by omega) (by omega) (fun a ha => absurd ha (Nat.not_lt_zero a)))
        · skip
          refine zg_iload X dX7_reviewer_127 rfl ?_
          refine zg_iload_n X dX7_reviewer_129 rfl ?_
          refine zg_icmp_eq X dX7_reviewer_130 (tgt := 136) (by decide) (fun c_130 => ?_) (fun c_130 => ?_)
          · skip
            have n2 : ¬ revOk (fpI σ (σ.1 0) (σ.2.2 7 r0)) (σ.2.2 21 g) := fun q => q.2 c_130
            refine zg_iinc X (v := 0) dX7_reviewer_136 (by decide) rfl (by decide) ?_
            refine zg_goto X dX7_reviewer_139 (tgt := 59) (by decide) ?_
            have LP59 : ∀ (fu : Nat) (i : Nat), σ.1 0 + 1 ≤ i + fu → i ≤ σ.1 0 → (∀ a, a < i → ¬ revOk (fpI σ (σ.1 0) (nI a)) (σ.2.2 21 g)) → zG p l e (headSpec wsX7_reviewer ({ frames := 2, cells := 0, slots := 0, locals := 44 })).room s m [.ref (ad 0), .int (nI g)].toArray below meth c D 7 A 0 0 (MQ below (qI D (zT T) (fun v0 w => v0 = revI σ g ∧ w = wM ad T (σ)) A) [.ref (ad 0), .int (nI g)].toArray s 0 0 A) (wM ad T σ) 59 [(0, .ref (ad 0)), (1, .int (nI g)), (2, .int (σ.2.2 21 g)), (3, .int (closeI σ g)), (4, .int (nI i))] [] := by
              intro fu
              induction fu with
              | zero => intro i hfu hii _; exact absurd hfu (by omega)
              | succ fu ih59 =>
                intro i hfu hii hq
                refine zg_iload X dX7_reviewer_59 rfl ?_
                refine zg_aload_n X dX7_reviewer_61 rfl ?_
                refine rg_M_people X f7 l92 dX7_reviewer_62 ?_
                refine zg_icmpn_ge X dX7_reviewer_65 (tgt := 142) (by decide) (a := i) (b := σ.1 0) (by omega) (by omega) (fun c_65 => ?_) (fun c_65 => ?_)
                · skip
                  refine zg_iconst X (v := (-1)) dX7_reviewer_142 (by decide) ?_
                  exact zg_iret X hr dX7_reviewer_143 (Nat.le_of_ble_eq_true rfl) (Nat.le_of_ble_eq_true rfl) (⟨by rw [revI, if_neg n1, er, ix_nI (by omega), if_neg n2, revL_none (fun a ha => hq a (by omega))], rfl⟩)
                · skip
                  refine zg_iload X dX7_reviewer_68 rfl ?_
                  refine zg_bipush X (v := (-2)) dX7_reviewer_70 (by decide) ?_
                  refine zg_icmp_ne X dX7_reviewer_72 (tgt := 79) (by decide) (fun c_72 => ?_) (fun c_72 => absurd c_72 (nI_neg (by decide) (by omega)))
                  refine zg_iload X dX7_reviewer_79 rfl ?_
                  refine zg_iconst X (v := (-1)) dX7_reviewer_81 (by decide) ?_
                  refine zg_icmp_ne X dX7_reviewer_82 (tgt := 99) (by decide) (fun c_82 => ?_) (fun c_82 => absurd c_82 (nI_m1 (by omega)))
                  refine zg_iload X dX7_reviewer_99 rfl ?_
                  refine zg_istore X dX7_reviewer_101 (by decide) ?_
                  refine zg_iload X dX7_reviewer_103 rfl ?_
                  refine zg_iconst X (v := (-1)) dX7_reviewer_105 (by decide) ?_
                  refine zg_icmp_ne X dX7_reviewer_106 (tgt := 113) (by decide) (fun c_106 => ?_) (fun c_106 => absurd c_106 (nI_m1 (by omega)))
                  refine zg_aload_n X dX7_reviewer_113 rfl ?_
                  refine zg_iload X dX7_reviewer_114 rfl ?_
                  refine zg_callVi X (k_X7_standBy l D ad T _ hI _ (Or.inr ⟨i, by omega, rfl⟩)) zFr.rf gX7_reviewer_X7_standBy rfl rfl rfl qv_X7_standBy rfl ⟨Nat.le_of_ble_eq_true rfl, Nat.le_of_ble_eq_true rfl⟩ (q0 := 0) (ci := 9) rfl rfl rfl (Nat.le_of_ble_eq_true rfl) ⟨Nat.le_of_ble_eq_true rfl, Nat.le_of_ble_eq_true rfl⟩ dX7_reviewer_116 (fun r w1 hz9 => ?_)
                  obtain ⟨rfl, rfl⟩ := hz9
                  skip
                  refine zg_istore X dX7_reviewer_119 (by decide) ?_
                  refine zg_iload X dX7_reviewer_121 rfl ?_
                  refine zg_iconst X (v := (-1)) dX7_reviewer_123 (by decide) ?_
                  refine zg_icmp_eq X dX7_reviewer_124 (tgt := 136) (by decide) (fun c_124 => ?_) (fun c_124 => ?_)
                  · skip
                    skip
                    refine zg_iinc1 X dX7_reviewer_136 (by decide) rfl ?_
                    refine zg_goto X dX7_reviewer_139 (tgt := 59) (by decide) ?_
                    exact zg_lv (by exact ⟨rfl, rfl, rfl, rfl, rfl, trivial⟩) (ih59 (i + 1) (by omega) (by omega) (lt_s hq (fun h => h.1 c_124)))
                  · skip
                    refine zg_iload X dX7_reviewer_127 rfl ?_
                    refine zg_iload_n X dX7_reviewer_129 rfl ?_
                    refine zg_icmp_eq X dX7_reviewer_130 (tgt := 136) (by decide) (fun c_130 => ?_) (fun c_130 => ?_)
                    · skip
                      skip
                      refine zg_iinc1 X dX7_reviewer_136 (by decide) rfl ?_
                      refine zg_goto X dX7_reviewer_139 (tgt := 59) (by decide) ?_
                      exact zg_lv (by exact ⟨rfl, rfl, rfl, rfl, rfl, trivial⟩) (ih59 (i + 1) (by omega) (by omega) (lt_s hq (fun h => h.2 c_130)))
                    · skip
                      refine zg_iload X dX7_reviewer_133 rfl ?_
                      exact zg_iret X hr dX7_reviewer_135 (Nat.le_of_ble_eq_true rfl) (Nat.le_of_ble_eq_true rfl) (⟨by rw [revI, if_neg n1, er, ix_nI (by omega), if_neg n2, revL_some (by omega) ⟨c_124, c_130⟩ hq], rfl⟩)
            exact zg_lv (by exact ⟨rfl, rfl, rfl, rfl, rfl, trivial⟩) (LP59 (σ.1 0 + 1) 0 (by omega) (by omega) (fun a ha => absurd ha (Nat.not_lt_zero a)))
          · skip
            refine zg_iload X dX7_reviewer_133 rfl ?_
            exact zg_iret X hr dX7_reviewer_135 (Nat.le_of_ble_eq_true rfl) (Nat.le_of_ble_eq_true rfl) (⟨by rw [revI, if_neg n1, er, ix_nI (by omega), if_pos ⟨c_124, c_130⟩], rfl⟩)
      · skip
        refine zg_iload X dX7_reviewer_127 rfl ?_
        refine zg_iload_n X dX7_reviewer_129 rfl ?_
        refine zg_icmp_eq X dX7_reviewer_130 (tgt := 136) (by decide) (fun c_130 => ?_) (fun c_130 => ?_)
        · skip
          have n1 : ¬ revOk (fpI σ (σ.1 0) (closeI σ g)) (σ.2.2 21 g) := fun q => q.2 c_130
          refine zg_iinc X (v := (-1)) dX7_reviewer_136 (by decide) rfl (by decide) ?_
          refine zg_goto X dX7_reviewer_139 (tgt := 59) (by decide) ?_
          refine zg_iload X dX7_reviewer_59 rfl ?_
          refine zg_aload_n X dX7_reviewer_61 rfl ?_
          refine rg_M_people X f7 l92 dX7_reviewer_62 ?_
          refine zg_icmp_ge X dX7_reviewer_65 (tgt := 142) (by decide) (fun c_65 => absurd c_65 (by rw [← zi_lt]; exact neg_lt_nI (by decide) (by omega))) (fun c_65 => ?_)
          refine zg_iload X dX7_reviewer_68 rfl ?_
          refine zg_bipush X (v := (-2)) dX7_reviewer_70 (by decide) ?_
          refine zg_icmp_ne X dX7_reviewer_72 (tgt := 79) (by decide) (fun _ => ?_) (fun q => absurd q (by decide))
          refine zg_iload X dX7_reviewer_79 rfl ?_
          refine zg_iconst X (v := (-1)) dX7_reviewer_81 (by decide) ?_
          refine zg_icmp_ne X dX7_reviewer_82 (tgt := 99) (by decide) (fun q => absurd q (by decide)) (fun _ => ?_)
          refine zg_aload_n X dX7_reviewer_85 rfl ?_
          refine rg_M_rightOwners X f7 l31 dX7_reviewer_86 ?_
          refine zg_aload_n X dX7_reviewer_89 rfl ?_
          refine rg_M_rightOf X f7 l37 dX7_reviewer_90 ?_
          refine zg_iload_n X dX7_reviewer_93 rfl ?_
          refine rlM_gRight X (by omega) dX7_reviewer_94 ?_
          refine zg_top er ?_
          refine rlM_rOwners X (by omega) dX7_reviewer_95 ?_
          refine zg_goto X dX7_reviewer_96 (tgt := 101) (by decide) ?_
          refine zg_istore X dX7_reviewer_101 (by decide) ?_
          refine zg_iload X dX7_reviewer_103 rfl ?_
          refine zg_iconst X (v := (-1)) dX7_reviewer_105 (by decide) ?_
          refine zg_icmp_ne X dX7_reviewer_106 (tgt := 113) (by decide) (fun c_106 => ?_) (fun c_106 => absurd c_106 (by obtain ⟨j9, hj9, e9⟩ := hro; rw [e9]; exact nI_m1 (by omega)))
          refine zg_aload_n X dX7_reviewer_113 rfl ?_
          refine zg_iload X dX7_reviewer_114 rfl ?_
          refine zg_callVi X (k_X7_standBy l D ad T _ hI _ (Or.inr hro)) zFr.rf gX7_reviewer_X7_standBy rfl rfl rfl qv_X7_standBy rfl ⟨Nat.le_of_ble_eq_true rfl, Nat.le_of_ble_eq_true rfl⟩ (q0 := 0) (ci := 9) rfl rfl rfl (Nat.le_of_ble_eq_true rfl) ⟨Nat.le_of_ble_eq_true rfl, Nat.le_of_ble_eq_true rfl⟩ dX7_reviewer_116 (fun r w1 hz9 => ?_)
          obtain ⟨rfl, rfl⟩ := hz9
          skip
          refine zg_istore X dX7_reviewer_119 (by decide) ?_
          refine zg_iload X dX7_reviewer_121 rfl ?_
          refine zg_iconst X (v := (-1)) dX7_reviewer_123 (by decide) ?_
          refine zg_icmp_eq X dX7_reviewer_124 (tgt := 136) (by decide) (fun c_124 => ?_) (fun c_124 => ?_)
          · skip
            have n2 : ¬ revOk (fpI σ (σ.1 0) (σ.2.2 7 r0)) (σ.2.2 21 g) := fun q => q.1 c_124
            refine zg_iinc X (v := 0) dX7_reviewer_136 (by decide) rfl (by decide) ?_
            refine zg_goto X dX7_reviewer_139 (tgt := 59) (by decide) ?_
            have LP59 : ∀ (fu : Nat) (i : Nat), σ.1 0 + 1 ≤ i + fu → i ≤ σ.1 0 → (∀ a, a < i → ¬ revOk (fpI σ (σ.1 0) (nI a)) (σ.2.2 21 g)) → zG p l e (headSpec wsX7_reviewer ({ frames := 2, cells := 0, slots := 0, locals := 44 })).room s m [.ref (ad 0), .int (nI g)].toArray below meth c D 7 A 0 0 (MQ below (qI D (zT T) (fun v0 w => v0 = revI σ g ∧ w = wM ad T (σ)) A) [.ref (ad 0), .int (nI g)].toArray s 0 0 A) (wM ad T σ) 59 [(0, .ref (ad 0)), (1, .int (nI g)), (2, .int (σ.2.2 21 g)), (3, .int (closeI σ g)), (4, .int (nI i))] [] := by
              intro fu
              induction fu with
              | zero => intro i hfu hii _; exact absurd hfu (by omega)
              | succ fu ih59 =>
                intro i hfu hii hq
                refine zg_iload X dX7_reviewer_59 rfl ?_
                refine zg_aload_n X dX7_reviewer_61 rfl ?_
                refine rg_M_people X f7 l92 dX7_reviewer_62 ?_
                refine zg_icmpn_ge X dX7_reviewer_65 (tgt := 142) (by decide) (a := i) (b := σ.1 0) (by omega) (by omega) (fun c_65 => ?_) (fun c_65 => ?_)
                · skip
                  refine zg_iconst X (v := (-1)) dX7_reviewer_142 (by decide) ?_
                  exact zg_iret X hr dX7_reviewer_143 (Nat.le_of_ble_eq_true rfl) (Nat.le_of_ble_eq_true rfl) (⟨by rw [revI, if_neg n1, er, ix_nI (by omega), if_neg n2, revL_none (fun a ha => hq a (by omega))], rfl⟩)
                · skip
                  refine zg_iload X dX7_reviewer_68 rfl ?_
                  refine zg_bipush X (v := (-2)) dX7_reviewer_70 (by decide) ?_
                  refine zg_icmp_ne X dX7_reviewer_72 (tgt := 79) (by decide) (fun c_72 => ?_) (fun c_72 => absurd c_72 (nI_neg (by decide) (by omega)))
                  refine zg_iload X dX7_reviewer_79 rfl ?_
                  refine zg_iconst X (v := (-1)) dX7_reviewer_81 (by decide) ?_
                  refine zg_icmp_ne X dX7_reviewer_82 (tgt := 99) (by decide) (fun c_82 => ?_) (fun c_82 => absurd c_82 (nI_m1 (by omega)))
                  refine zg_iload X dX7_reviewer_99 rfl ?_
                  refine zg_istore X dX7_reviewer_101 (by decide) ?_
                  refine zg_iload X dX7_reviewer_103 rfl ?_
                  refine zg_iconst X (v := (-1)) dX7_reviewer_105 (by decide) ?_
                  refine zg_icmp_ne X dX7_reviewer_106 (tgt := 113) (by decide) (fun c_106 => ?_) (fun c_106 => absurd c_106 (nI_m1 (by omega)))
                  refine zg_aload_n X dX7_reviewer_113 rfl ?_
                  refine zg_iload X dX7_reviewer_114 rfl ?_
                  refine zg_callVi X (k_X7_standBy l D ad T _ hI _ (Or.inr ⟨i, by omega, rfl⟩)) zFr.rf gX7_reviewer_X7_standBy rfl rfl rfl qv_X7_standBy rfl ⟨Nat.le_of_ble_eq_true rfl, Nat.le_of_ble_eq_true rfl⟩ (q0 := 0) (ci := 9) rfl rfl rfl (Nat.le_of_ble_eq_true rfl) ⟨Nat.le_of_ble_eq_true rfl, Nat.le_of_ble_eq_true rfl⟩ dX7_reviewer_116 (fun r w1 hz9 => ?_)
                  obtain ⟨rfl, rfl⟩ := hz9
                  skip
                  refine zg_istore X dX7_reviewer_119 (by decide) ?_
                  refine zg_iload X dX7_reviewer_121 rfl ?_
                  refine zg_iconst X (v := (-1)) dX7_reviewer_123 (by decide) ?_
                  refine zg_icmp_eq X dX7_reviewer_124 (tgt := 136) (by decide) (fun c_124 => ?_) (fun c_124 => ?_)
                  · skip
                    skip
                    refine zg_iinc1 X dX7_reviewer_136 (by decide) rfl ?_
                    refine zg_goto X dX7_reviewer_139 (tgt := 59) (by decide) ?_
                    exact zg_lv (by exact ⟨rfl, rfl, rfl, rfl, rfl, trivial⟩) (ih59 (i + 1) (by omega) (by omega) (lt_s hq (fun h => h.1 c_124)))
                  · skip
                    refine zg_iload X dX7_reviewer_127 rfl ?_
                    refine zg_iload_n X dX7_reviewer_129 rfl ?_
                    refine zg_icmp_eq X dX7_reviewer_130 (tgt := 136) (by decide) (fun c_130 => ?_) (fun c_130 => ?_)
                    · skip
                      skip
                      refine zg_iinc1 X dX7_reviewer_136 (by decide) rfl ?_
                      refine zg_goto X dX7_reviewer_139 (tgt := 59) (by decide) ?_
                      exact zg_lv (by exact ⟨rfl, rfl, rfl, rfl, rfl, trivial⟩) (ih59 (i + 1) (by omega) (by omega) (lt_s hq (fun h => h.2 c_130)))
                    · skip
                      refine zg_iload X dX7_reviewer_133 rfl ?_
                      exact zg_iret X hr dX7_reviewer_135 (Nat.le_of_ble_eq_true rfl) (Nat.le_of_ble_eq_true rfl) (⟨by rw [revI, if_neg n1, er, ix_nI (by omega), if_neg n2, revL_some (by omega) ⟨c_124, c_130⟩ hq], rfl⟩)
            exact zg_lv (by exact ⟨rfl, rfl, rfl, rfl, rfl, trivial⟩) (LP59 (σ.1 0 + 1) 0 (by omega) (by omega) (fun a ha => absurd ha (Nat.not_lt_zero a)))
          · skip
            refine zg_iload X dX7_reviewer_127 rfl ?_
            refine zg_iload_n X dX7_reviewer_129 rfl ?_
            refine zg_icmp_eq X dX7_reviewer_130 (tgt := 136) (by decide) (fun c_130 => ?_) (fun c_130 => ?_)
            · skip
              have n2 : ¬ revOk (fpI σ (σ.1 0) (σ.2.2 7 r0)) (σ.2.2 21 g) := fun q => q.2 c_130
              refine zg_iinc X (v := 0) dX7_reviewer_136 (by decide) rfl (by decide) ?_
              refine zg_goto X dX7_reviewer_139 (tgt := 59) (by decide) ?_
              have LP59 : ∀ (fu : Nat) (i : Nat), σ.1 0 + 1 ≤ i + fu → i ≤ σ.1 0 → (∀ a, a < i → ¬ revOk (fpI σ (σ.1 0) (nI a)) (σ.2.2 21 g)) → zG p l e (headSpec wsX7_reviewer ({ frames := 2, cells := 0, slots := 0, locals := 44 })).room s m [.ref (ad 0), .int (nI g)].toArray below meth c D 7 A 0 0 (MQ below (qI D (zT T) (fun v0 w => v0 = revI σ g ∧ w = wM ad T (σ)) A) [.ref (ad 0), .int (nI g)].toArray s 0 0 A) (wM ad T σ) 59 [(0, .ref (ad 0)), (1, .int (nI g)), (2, .int (σ.2.2 21 g)), (3, .int (closeI σ g)), (4, .int (nI i))] [] := by
                intro fu
                induction fu with
                | zero => intro i hfu hii _; exact absurd hfu (by omega)
                | succ fu ih59 =>
                  intro i hfu hii hq
                  refine zg_iload X dX7_reviewer_59 rfl ?_
                  refine zg_aload_n X dX7_reviewer_61 rfl ?_
                  refine rg_M_people X f7 l92 dX7_reviewer_62 ?_
                  refine zg_icmpn_ge X dX7_reviewer_65 (tgt := 142) (by decide) (a := i) (b := σ.1 0) (by omega) (by omega) (fun c_65 => ?_) (fun c_65 => ?_)
                  · skip
                    refine zg_iconst X (v := (-1)) dX7_reviewer_142 (by decide) ?_
                    exact zg_iret X hr dX7_reviewer_143 (Nat.le_of_ble_eq_true rfl) (Nat.le_of_ble_eq_true rfl) (⟨by rw [revI, if_neg n1, er, ix_nI (by omega), if_neg n2, revL_none (fun a ha => hq a (by omega))], rfl⟩)
                  · skip
                    refine zg_iload X dX7_reviewer_68 rfl ?_
                    refine zg_bipush X (v := (-2)) dX7_reviewer_70 (by decide) ?_
                    refine zg_icmp_ne X dX7_reviewer_72 (tgt := 79) (by decide) (fun c_72 => ?_) (fun c_72 => absurd c_72 (nI_neg (by decide) (by omega)))
                    refine zg_iload X dX7_reviewer_79 rfl ?_
                    refine zg_iconst X (v := (-1)) dX7_reviewer_81 (by decide) ?_
                    refine zg_icmp_ne X dX7_reviewer_82 (tgt := 99) (by decide) (fun c_82 => ?_) (fun c_82 => absurd c_82 (nI_m1 (by omega)))
                    refine zg_iload X dX7_reviewer_99 rfl ?_
                    refine zg_istore X dX7_reviewer_101 (by decide) ?_
                    refine zg_iload X dX7_reviewer_103 rfl ?_
                    refine zg_iconst X (v := (-1)) dX7_reviewer_105 (by decide) ?_
                    refine zg_icmp_ne X dX7_reviewer_106 (tgt := 113) (by decide) (fun c_106 => ?_) (fun c_106 => absurd c_106 (nI_m1 (by omega)))
                    refine zg_aload_n X dX7_reviewer_113 rfl ?_
                    refine zg_iload X dX7_reviewer_114 rfl ?_
                    refine zg_callVi X (k_X7_standBy l D ad T _ hI _ (Or.inr ⟨i, by omega, rfl⟩)) zFr.rf gX7_reviewer_X7_standBy rfl rfl rfl qv_X7_standBy rfl ⟨Nat.le_of_ble_eq_true rfl, Nat.le_of_ble_eq_true rfl⟩ (q0 := 0) (ci := 9) rfl rfl rfl (Nat.le_of_ble_eq_true rfl) ⟨Nat.le_of_ble_eq_true rfl, Nat.le_of_ble_eq_true rfl⟩ dX7_reviewer_116 (fun r w1 hz9 => ?_)
                    obtain ⟨rfl, rfl⟩ := hz9
                    skip
                    refine zg_istore X dX7_reviewer_119 (by decide) ?_
                    refine zg_iload X dX7_reviewer_121 rfl ?_
                    refine zg_iconst X (v := (-1)) dX7_reviewer_123 (by decide) ?_
                    refine zg_icmp_eq X dX7_reviewer_124 (tgt := 136) (by decide) (fun c_124 => ?_) (fun c_124 => ?_)
                    · skip
                      skip
                      refine zg_iinc1 X dX7_reviewer_136 (by decide) rfl ?_
                      refine zg_goto X dX7_reviewer_139 (tgt := 59) (by decide) ?_
                      exact zg_lv (by exact ⟨rfl, rfl, rfl, rfl, rfl, trivial⟩) (ih59 (i + 1) (by omega) (by omega) (lt_s hq (fun h => h.1 c_124)))
                    · skip
                      refine zg_iload X dX7_reviewer_127 rfl ?_
                      refine zg_iload_n X dX7_reviewer_129 rfl ?_
                      refine zg_icmp_eq X dX7_reviewer_130 (tgt := 136) (by decide) (fun c_130 => ?_) (fun c_130 => ?_)
                      · skip
                        skip
                        refine zg_iinc1 X dX7_reviewer_136 (by decide) rfl ?_
                        refine zg_goto X dX7_reviewer_139 (tgt := 59) (by decide) ?_
                        exact zg_lv (by exact ⟨rfl, rfl, rfl, rfl, rfl, trivial⟩) (ih59 (i + 1) (by omega) (by omega) (lt_s hq (fun h => h.2 c_130)))
                      · skip
                        refine zg_iload X dX7_reviewer_133 rfl ?_
                        exact zg_iret X hr dX7_reviewer_135 (Nat.le_of_ble_eq_true rfl) (Nat.le_of_ble_eq_true rfl) (⟨by rw [revI, if_neg n1, er, ix_nI (by omega), if_neg n2, revL_some (by omega) ⟨c_124, c_130⟩ hq], rfl⟩)
              exact zg_lv (by exact ⟨rfl, rfl, rfl, rfl, rfl, trivial⟩) (LP59 (σ.1 0 + 1) 0 (by omega) (by omega) (fun a ha => absurd ha (Nat.not_lt_zero a)))
            · skip
              refine zg_iload X dX7_reviewer_133 rfl ?_
              exact zg_iret X hr dX7_reviewer_135 (Nat.le_of_ble_eq_true rfl) (Nat.le_of_ble_eq_true rfl) (⟨by rw [revI, if_neg n1, er, ix_nI (by omega), if_pos ⟨c_124, c_130⟩], rfl⟩)
        · skip
          refine zg_iload X dX7_reviewer_133 rfl ?_
          exact zg_iret X hr dX7_reviewer_135 (Nat.le_of_ble_eq_true rfl) (Nat.le_of_ble_eq_true rfl) (⟨by rw [revI, if_pos ⟨c_124, c_130⟩], rfl⟩)

set_option maxHeartbeats 4000000 in
set_option maxRecDepth 100000 in
theorem k_X7_seals (l : Launch) (D : va_G) (ad : Nat → Nat) (T : Nat → ClassId) (σ : ZS) (hI : zI σ) (gg sg : Int32) (hR : zR σ) (hsg : vp_nar .char sg = sg) : zM l yX7_seals wsX7_seals ({ frames := 0, cells := 0, slots := 0, locals := 0 }) D (zT T) [.ref (ad 0), .int gg, .int sg] (wM ad T σ) 0 0 (qV D (zT T) (fun w => w = wM ad T (evAdd σ sg gg (σ.2.1 0)))) := by
  have hB0 := hI.bd
  obtain ⟨b0, b1, b2, b3, b4, b5⟩ := hI.bd
  refine zg_of (cc := cX7_seals) (maxL := 5) (ret := none) (by decide) rfl (Nat.le_of_ble_eq_true rfl) (fun p e s m below meth c A hin hr X => ?_)
  have X : zC p s m _ meth c cX7_seals 5 wsX7_seals RX7 D (zT T) A := X
  have f7 : ∀ w ∈ u_ws RX7 TX7 37, w ∈ wsX7_seals := by decide +kernel
  have l134 : Cond.fieldLink RX7 134 "RecertifyModel" "day" "I" ∈ wsX7_seals := by decide +kernel
  have l171 : Cond.fieldLink RX7 171 "RecertifyModel" "entries" "I" ∈ wsX7_seals := by decide +kernel
  have l174 : Cond.constant RX7 174 (65535) ∈ wsX7_seals := by decide +kernel
  have l67 : Cond.fieldLink RX7 67 "RecertifyModel" "signs" "[C" ∈ wsX7_seals := by decide +kernel
  have l70 : Cond.fieldLink RX7 70 "RecertifyModel" "seals" "[I" ∈ wsX7_seals := by decide +kernel
  refine zg_aload_n X dX7_seals_0 rfl ?_
  refine rg_M_entries X f7 l171 dX7_seals_1 ?_
  refine zg_bipush X (v := 99) dX7_seals_4 (by decide) ?_
  refine zg_icmpn_ne X dX7_seals_6 (tgt := 10) (by decide) (a := σ.1 5) (b := 99) (by omega) (by omega) (fun c_6 => ?_) (fun c_6 => ?_)
  · skip
    refine zg_aload_n X dX7_seals_10 rfl ?_
    refine rg_M_entries X f7 l171 dX7_seals_11 ?_
    refine zg_ifn_ne X dX7_seals_14 (tgt := 21) (by decide) (by omega) (fun c_14 => ?_) (fun c_14 => ?_)
    · skip
      refine zg_aload_n X dX7_seals_21 rfl ?_
      refine rg_M_seals X f7 l70 dX7_seals_22 ?_
      refine zg_aload_n X dX7_seals_25 rfl ?_
      refine rg_M_entries X f7 l171 dX7_seals_26 ?_
      refine zg_iconst X (v := 1) dX7_seals_29 (by decide) ?_
      refine zg_isub X dX7_seals_30 ?_
      refine zg_top (zsub1 (by omega)) ?_
      refine rlM_seals X (by omega) dX7_seals_31 ?_
      obtain ⟨v9, hv9, e9⟩ := hR (σ.1 5 - 1) (by omega)
      refine zg_istore_n X dX7_seals_32 (by decide) ?_
      refine zg_iload_n X dX7_seals_33 rfl ?_
      refine zg_iconst X (v := 5) dX7_seals_34 (by decide) ?_
      refine zg_ishl X dX7_seals_35 ?_
      refine zg_iload_n X dX7_seals_36 rfl ?_
      refine zg_bipush X (v := 11) dX7_seals_37 (by decide) ?_
      refine zg_ishr X dX7_seals_39 ?_
      refine zg_ior X dX7_seals_40 ?_
      refine zg_ldc X (v := 65535) dX7_seals_41 l174 ?_
      refine zg_iand X dX7_seals_43 ?_
      refine zg_istore X dX7_seals_44 (by decide) ?_
      refine zg_aload_n X dX7_seals_46 rfl ?_
      refine rg_M_signs X f7 l67 dX7_seals_47 ?_
      refine zg_aload_n X dX7_seals_50 rfl ?_
      refine rg_M_entries X f7 l171 dX7_seals_51 ?_
      refine zg_iload_n X dX7_seals_54 rfl ?_
      refine rsM_signs X (show σ.1 5 < 99 by omega) hsg dX7_seals_55 ?_
      refine zg_aload_n X dX7_seals_56 rfl ?_
      refine rg_M_seals X f7 l70 dX7_seals_57 ?_
      refine zg_aload_n X dX7_seals_60 rfl ?_
      refine rg_M_entries X f7 l171 dX7_seals_61 ?_
      refine zg_iload X dX7_seals_64 rfl ?_
      refine zg_sipush X (v := 257) dX7_seals_66 (by decide) ?_
      refine zg_iload_n X dX7_seals_69 rfl ?_
      refine zg_imul X dX7_seals_70 ?_
      refine zg_bipush X (v := 17) dX7_seals_71 (by decide) ?_
      refine zg_aload_n X dX7_seals_73 rfl ?_
      refine rg_M_day X f7 l134 dX7_seals_74 ?_
      refine zg_imul X dX7_seals_77 ?_
      refine zg_iadd X dX7_seals_78 ?_
      refine zg_iload_n X dX7_seals_79 rfl ?_
      refine zg_iadd X dX7_seals_80 ?_
      refine zg_ldc X (v := 65535) dX7_seals_81 l174 ?_
      refine zg_iand X dX7_seals_83 ?_
      refine zg_top (v' := (257 * gg + 17 * σ.2.1 0 + sg) &&& 65535) rfl ?_
      refine zg_ixor X dX7_seals_84 ?_
      refine zg_top (v' := sealI (σ.2.2 15 (σ.1 5 - 1)) gg (σ.2.1 0) sg) (by rw [e9, shr11 hv9, ← e9]; rfl) ?_
      refine rsM_seals X (show σ.1 5 < 99 by omega) dX7_seals_85 ?_
      refine zg_aload_n X dX7_seals_86 rfl ?_
      refine zg_dup X dX7_seals_87 rfl ?_
      refine rg_M_entries X f7 l171 dX7_seals_88 ?_
      refine zg_iconst X (v := 1) dX7_seals_91 (by decide) ?_
      refine zg_iadd X dX7_seals_92 ?_
      refine zg_top (nI_1 _) ?_
      refine rp_M_entries X f7 l171 dX7_seals_93 ?_
      exact zg_vret X hr dX7_seals_96 (Nat.le_of_ble_eq_true rfl) (Nat.le_of_ble_eq_true rfl) (by rw [evAdd, if_neg (show ¬ 99 ≤ σ.1 5 by omega), if_pos (show 0 < σ.1 5 by omega)]; rfl)
    · skip
      refine zg_iconst X (v := 0) dX7_seals_17 (by decide) ?_
      refine zg_goto X dX7_seals_18 (tgt := 32) (by decide) ?_
      refine zg_istore_n X dX7_seals_32 (by decide) ?_
      refine zg_iload_n X dX7_seals_33 rfl ?_
      refine zg_iconst X (v := 5) dX7_seals_34 (by decide) ?_
      refine zg_ishl X dX7_seals_35 ?_
      refine zg_iload_n X dX7_seals_36 rfl ?_
      refine zg_bipush X (v := 11) dX7_seals_37 (by decide) ?_
      refine zg_ishr X dX7_seals_39 ?_
      refine zg_ior X dX7_seals_40 ?_
      refine zg_ldc X (v := 65535) dX7_seals_41 l174 ?_
      refine zg_iand X dX7_seals_43 ?_
      refine zg_istore X dX7_seals_44 (by decide) ?_
      refine zg_aload_n X dX7_seals_46 rfl ?_
      refine rg_M_signs X f7 l67 dX7_seals_47 ?_
      refine zg_aload_n X dX7_seals_50 rfl ?_
      refine rg_M_entries X f7 l171 dX7_seals_51 ?_
      refine zg_iload_n X dX7_seals_54 rfl ?_
      refine rsM_signs X (show σ.1 5 < 99 by omega) hsg dX7_seals_55 ?_
      refine zg_aload_n X dX7_seals_56 rfl ?_
      refine rg_M_seals X f7 l70 dX7_seals_57 ?_
      refine zg_aload_n X dX7_seals_60 rfl ?_
      refine rg_M_entries X f7 l171 dX7_seals_61 ?_
      refine zg_iload X dX7_seals_64 rfl ?_
      refine zg_sipush X (v := 257) dX7_seals_66 (by decide) ?_
      refine zg_iload_n X dX7_seals_69 rfl ?_
      refine zg_imul X dX7_seals_70 ?_
      refine zg_bipush X (v := 17) dX7_seals_71 (by decide) ?_
      refine zg_aload_n X dX7_seals_73 rfl ?_
      refine rg_M_day X f7 l134 dX7_seals_74 ?_
      refine zg_imul X dX7_seals_77 ?_
      refine zg_iadd X dX7_seals_78 ?_
      refine zg_iload_n X dX7_seals_79 rfl ?_
      refine zg_iadd X dX7_seals_80 ?_
      refine zg_ldc X (v := 65535) dX7_seals_81 l174 ?_
      refine zg_iand X dX7_seals_83 ?_
      refine zg_top (v' := (257 * gg + 17 * σ.2.1 0 + sg) &&& 65535) rfl ?_
      refine zg_ixor X dX7_seals_84 ?_
      refine zg_top (v' := sealI 0 gg (σ.2.1 0) sg) (by rfl) ?_
      refine rsM_seals X (show σ.1 5 < 99 by omega) dX7_seals_85 ?_
      refine zg_aload_n X dX7_seals_86 rfl ?_
      refine zg_dup X dX7_seals_87 rfl ?_
      refine rg_M_entries X f7 l171 dX7_seals_88 ?_
      refine zg_iconst X (v := 1) dX7_seals_91 (by decide) ?_
      refine zg_iadd X dX7_seals_92 ?_
      refine zg_top (nI_1 _) ?_
      refine rp_M_entries X f7 l171 dX7_seals_93 ?_
      exact zg_vret X hr dX7_seals_96 (Nat.le_of_ble_eq_true rfl) (Nat.le_of_ble_eq_true rfl) (by rw [evAdd, if_neg (show ¬ 99 ≤ σ.1 5 by omega), if_neg (show ¬ 0 < σ.1 5 by omega)]; rfl)
  · skip
    exact zg_vret X hr dX7_seals_9 (Nat.le_of_ble_eq_true rfl) (Nat.le_of_ble_eq_true rfl) (by rw [evAdd, if_pos (show 99 ≤ σ.1 5 by omega)])

set_option maxHeartbeats 4000000 in
set_option maxRecDepth 100000 in
theorem k_X7_decides (l : Launch) (D : va_G) (ad : Nat → Nat) (T : Nat → ClassId) (σ : ZS) (hI : zI σ) (i0 : Nat) (dc vd : Int32) (hi0 : i0 < σ.1 4) (hR : zR σ) (hvd : vp_nar .char vd = vd) : zM l yX7_decides wsX7_decides ({ frames := 1, cells := 0, slots := 0, locals := 24 }) D (zT T) [.ref (ad 0), .int (nI i0), .int dc, .int vd] (wM ad T σ) 0 0 (qV D (zT T) (fun w => w = wM ad T (decI σ i0 vd dc))) := by
  have hB0 := hI.bd
  obtain ⟨b0, b1, b2, b3, b4, b5⟩ := hI.bd
  obtain ⟨g0, hg0, eg⟩ := hI.itm i0 hi0
  refine zg_of (cc := cX7_decides) (maxL := 4) (ret := none) (by decide) rfl (Nat.le_of_ble_eq_true rfl) (fun p e s m below meth c A hin hr X => ?_)
  have X : zC p s m _ meth c cX7_decides 4 wsX7_decides RX7 D (zT T) A := X
  have f7 : ∀ w ∈ u_ws RX7 TX7 37, w ∈ wsX7_decides := by decide +kernel
  have l134 : Cond.fieldLink RX7 134 "RecertifyModel" "day" "I" ∈ wsX7_decides := by decide +kernel
  have l185 : Cond.fieldLink RX7 185 "RecertifyModel" "decidedAll" "I" ∈ wsX7_decides := by decide +kernel
  have l191 : Cond.fieldLink RX7 191 "RecertifyModel" "revokedAll" "I" ∈ wsX7_decides := by decide +kernel
  have l46 : Cond.fieldLink RX7 46 "RecertifyModel" "due" "[I" ∈ wsX7_decides := by decide +kernel
  have l56 : Cond.fieldLink RX7 56 "RecertifyModel" "states" "[C" ∈ wsX7_decides := by decide +kernel
  have l64 : Cond.fieldLink RX7 64 "RecertifyModel" "grace" "I" ∈ wsX7_decides := by decide +kernel
  have l73 : Cond.fieldLink RX7 73 "RecertifyModel" "itemGrants" "[I" ∈ wsX7_decides := by decide +kernel
  have l76 : Cond.fieldLink RX7 76 "RecertifyModel" "deciders" "[I" ∈ wsX7_decides := by decide +kernel
  have l79 : Cond.fieldLink RX7 79 "RecertifyModel" "verdicts" "[C" ∈ wsX7_decides := by decide +kernel
  refine zg_aload_n X dX7_decides_0 rfl ?_
  refine rg_M_verdicts X f7 l79 dX7_decides_1 ?_
  refine zg_iload_n X dX7_decides_4 rfl ?_
  refine zg_iload_n X dX7_decides_5 rfl ?_
  refine rsM_verdicts X (by omega) hvd dX7_decides_6 ?_
  refine zg_aload_n X dX7_decides_7 rfl ?_
  refine rg_M_deciders X f7 l76 dX7_decides_8 ?_
  refine zg_iload_n X dX7_decides_11 rfl ?_
  refine zg_iload_n X dX7_decides_12 rfl ?_
  refine rsM_deciders X (by omega) dX7_decides_13 ?_
  refine zg_aload_n X dX7_decides_14 rfl ?_
  refine zg_dup X dX7_decides_15 rfl ?_
  refine rg_M_decidedAll X f7 l185 dX7_decides_16 ?_
  refine zg_iconst X (v := 1) dX7_decides_19 (by decide) ?_
  refine zg_iadd X dX7_decides_20 ?_
  refine rp_M_decidedAll X f7 l185 dX7_decides_21 ?_
  refine zg_aload_n X dX7_decides_24 rfl ?_
  refine zg_aload_n X dX7_decides_25 rfl ?_
  refine rg_M_itemGrants X f7 l73 dX7_decides_26 ?_
  refine zg_iload_n X dX7_decides_29 rfl ?_
  refine rlM_itemGrants X (by omega) dX7_decides_30 ?_
  refine zg_top (show _ = nI g0 from eg) ?_
  refine zg_iload_n X dX7_decides_31 rfl ?_
  refine zg_callVv X (k_X7_seals l D ad T (st0 σ i0 vd dc) hI (nI g0) vd hR hvd) zFr.rf gX7_decides_X7_seals rfl rfl rfl qv_X7_seals rfl ⟨Nat.le_of_ble_eq_true rfl, Nat.le_of_ble_eq_true rfl⟩ (q0 := 0) (ci := 9) rfl rfl rfl (Nat.le_of_ble_eq_true rfl) ⟨Nat.le_of_ble_eq_true rfl, Nat.le_of_ble_eq_true rfl⟩ dX7_decides_32 (fun w1 hz9 => ?_)
  obtain rfl := hz9
  refine zg_iload_n X dX7_decides_35 rfl ?_
  refine zg_bipush X (v := 114) dX7_decides_36 (by decide) ?_
  refine zg_icmp_eq X dX7_decides_38 (tgt := 42) (by decide) (fun c_38 => ?_) (fun c_38 => ?_)
  · skip
    have e16 : (evAdd (st0 σ i0 vd dc) vd (nI g0) (σ.2.1 0)).2.2 16 i0 = nI g0 := by rw [ev_a (by decide) (by decide) (by decide) (by decide)]; exact eg
    refine zg_aload_n X dX7_decides_42 rfl ?_
    refine zg_dup X dX7_decides_43 rfl ?_
    refine rg_M_revokedAll X f7 l191 dX7_decides_44 ?_
    refine zg_iconst X (v := 1) dX7_decides_47 (by decide) ?_
    refine zg_iadd X dX7_decides_48 ?_
    refine rp_M_revokedAll X f7 l191 dX7_decides_49 ?_
    refine zg_aload_n X dX7_decides_52 rfl ?_
    refine rg_M_states X f7 l56 dX7_decides_53 ?_
    refine zg_aload_n X dX7_decides_56 rfl ?_
    refine rg_M_itemGrants X f7 l73 dX7_decides_57 ?_
    refine zg_iload_n X dX7_decides_60 rfl ?_
    refine rlM_itemGrants X (by omega) dX7_decides_61 ?_
    refine zg_top (show _ = nI g0 from e16) ?_
    refine zg_bipush X (v := 119) dX7_decides_62 (by decide) ?_
    refine rsM_states X (by omega) rfl dX7_decides_64 ?_
    refine zg_aload_n X dX7_decides_65 rfl ?_
    refine rg_M_due X f7 l46 dX7_decides_66 ?_
    refine zg_aload_n X dX7_decides_69 rfl ?_
    refine rg_M_itemGrants X f7 l73 dX7_decides_70 ?_
    refine zg_iload_n X dX7_decides_73 rfl ?_
    refine rlM_itemGrants X (by omega) dX7_decides_74 ?_
    refine zg_top (show _ = nI g0 from e16) ?_
    refine zg_aload_n X dX7_decides_75 rfl ?_
    refine rg_M_day X f7 l134 dX7_decides_76 ?_
    refine zg_aload_n X dX7_decides_79 rfl ?_
    refine rg_M_grace X f7 l64 dX7_decides_80 ?_
    refine zg_iadd X dX7_decides_83 ?_
    refine rsM_due X (by omega) dX7_decides_84 ?_
    exact zg_vret X hr dX7_decides_85 (Nat.le_of_ble_eq_true rfl) (Nat.le_of_ble_eq_true rfl) (by rw [decM_r eg (by omega) c_38 _ rfl]; rfl)
  · skip
    exact zg_vret X hr dX7_decides_41 (Nat.le_of_ble_eq_true rfl) (Nat.le_of_ble_eq_true rfl) (by rw [decM_k eg c_38]; rfl)

set_option maxHeartbeats 4000000 in
set_option maxRecDepth 100000 in
theorem k_X7_isBlockedNow (l : Launch) (D : va_G) (ad : Nat → Nat) (T : Nat → ClassId) (σ : ZS) (hI : zI σ) (g : Nat) (hg : g < σ.1 3) : zM l yX7_isBlockedNow wsX7_isBlockedNow ({ frames := 5, cells := 0, slots := 0, locals := 114 }) D (zT T) [.ref (ad 0), .int (nI g)] (wM ad T σ) 0 0 (qI D (zT T) (fun v0 w => v0 = bI (¬ σ.2.2 11 g = 120 ∧ cutI σ g) ∧ w = wM ad T (σ))) := by
  have hB0 := hI.bd
  obtain ⟨b0, b1, b2, b3, b4, b5⟩ := hI.bd
  obtain ⟨r0, hr0, er⟩ := hI.gRt g hg
  refine zg_of (cc := cX7_isBlockedNow) (maxL := 3) (ret := (some .boolean)) (by decide) rfl (Nat.le_of_ble_eq_true rfl) (fun p e s m below meth c A hin hr X => ?_)
  have X : zC p s m _ meth c cX7_isBlockedNow 3 wsX7_isBlockedNow RX7 D (zT T) A := X
  have f7 : ∀ w ∈ u_ws RX7 TX7 37, w ∈ wsX7_isBlockedNow := by decide +kernel
  have l37 : Cond.fieldLink RX7 37 "RecertifyModel" "rightOf" "[I" ∈ wsX7_isBlockedNow := by decide +kernel
  have l40 : Cond.fieldLink RX7 40 "RecertifyModel" "targets" "[I" ∈ wsX7_isBlockedNow := by decide +kernel
  have l49 : Cond.fieldLink RX7 49 "RecertifyModel" "isVital" "[Z" ∈ wsX7_isBlockedNow := by decide +kernel
  have l53 : Cond.fieldLink RX7 53 "RecertifyModel" "isToGroup" "[Z" ∈ wsX7_isBlockedNow := by decide +kernel
  have l56 : Cond.fieldLink RX7 56 "RecertifyModel" "states" "[C" ∈ wsX7_isBlockedNow := by decide +kernel
  refine zg_aload_n X dX7_isBlockedNow_0 rfl ?_
  refine rg_M_states X f7 l56 dX7_isBlockedNow_1 ?_
  refine zg_iload_n X dX7_isBlockedNow_4 rfl ?_
  refine rlM_states X (by omega) dX7_isBlockedNow_5 ?_
  refine zg_bipush X (v := 120) dX7_isBlockedNow_6 (by decide) ?_
  refine zg_icmp_eq X dX7_isBlockedNow_8 (tgt := 25) (by decide) (fun c_8 => ?_) (fun c_8 => ?_)
  · skip
    refine zg_iconst X (v := 0) dX7_isBlockedNow_25 (by decide) ?_
    exact zg_nret X hr (rfl) dX7_isBlockedNow_26 (Nat.le_of_ble_eq_true rfl) (Nat.le_of_ble_eq_true rfl) (⟨(bI_f (show ¬ (¬ σ.2.2 11 g = 120 ∧ cutI σ g) from fun q => q.1 c_8)).symm, rfl⟩)
  · skip
    refine zg_aload_n X dX7_isBlockedNow_11 rfl ?_
    refine rg_M_isVital X f7 l49 dX7_isBlockedNow_12 ?_
    refine zg_aload_n X dX7_isBlockedNow_15 rfl ?_
    refine rg_M_rightOf X f7 l37 dX7_isBlockedNow_16 ?_
    refine zg_iload_n X dX7_isBlockedNow_19 rfl ?_
    refine rlM_gRight X (by omega) dX7_isBlockedNow_20 ?_
    refine zg_top er ?_
    refine rlM_vital X (by omega) dX7_isBlockedNow_21 ?_
    refine zg_if_ne X dX7_isBlockedNow_22 (tgt := 27) (by decide) (fun c_22 => ?_) (fun c_22 => ?_)
    · skip
      refine zg_aload_n X dX7_isBlockedNow_27 rfl ?_
      refine zg_aload_n X dX7_isBlockedNow_28 rfl ?_
      refine rg_M_rightOf X f7 l37 dX7_isBlockedNow_29 ?_
      refine zg_iload_n X dX7_isBlockedNow_32 rfl ?_
      refine rlM_gRight X (by omega) dX7_isBlockedNow_33 ?_
      refine zg_top er ?_
      refine zg_iload_n X dX7_isBlockedNow_34 rfl ?_
      refine zg_callVi X (k_X7_holdersBut l D ad T _ hI r0 (by omega) (nI g)) zFr.rf gX7_isBlockedNow_X7_holdersBut rfl rfl rfl qv_X7_holdersBut rfl ⟨Nat.le_of_ble_eq_true rfl, Nat.le_of_ble_eq_true rfl⟩ (q0 := 0) (ci := 9) rfl rfl rfl (Nat.le_of_ble_eq_true rfl) ⟨Nat.le_of_ble_eq_true rfl, Nat.le_of_ble_eq_true rfl⟩ dX7_isBlockedNow_35 (fun r w1 hz9 => ?_)
      obtain ⟨rfl, rfl⟩ := hz9
      refine zg_istore_n X dX7_isBlockedNow_38 (by decide) ?_
      refine zg_aload_n X dX7_isBlockedNow_39 rfl ?_
      refine rg_M_isToGroup X f7 l53 dX7_isBlockedNow_40 ?_
      refine zg_iload_n X dX7_isBlockedNow_43 rfl ?_
      refine rlM_isToGroup X (by omega) dX7_isBlockedNow_44 ?_
      refine zg_if_eq X dX7_isBlockedNow_45 (tgt := 52) (by decide) (fun c_45 => ?_) (fun c_45 => ?_)
      · skip
        obtain ⟨j, hj, e21, e25⟩ := hI.mper g hg c_45
        refine zg_iload_n X dX7_isBlockedNow_52 rfl ?_
        refine zg_iconst X (v := 1) dX7_isBlockedNow_53 (by decide) ?_
        refine zg_aload_n X dX7_isBlockedNow_54 rfl ?_
        refine rg_M_targets X f7 l40 dX7_isBlockedNow_55 ?_
        refine zg_iload_n X dX7_isBlockedNow_58 rfl ?_
        refine rlM_targets X (by omega) dX7_isBlockedNow_59 ?_
        refine zg_top e25 ?_
        refine zg_ishl X dX7_isBlockedNow_60 ?_
        refine zg_iconst X (v := (-1)) dX7_isBlockedNow_61 (by decide) ?_
        refine zg_ixor X dX7_isBlockedNow_62 ?_
        refine zg_iand X dX7_isBlockedNow_63 ?_
        refine zg_if_ne X dX7_isBlockedNow_64 (tgt := 71) (by decide) (fun c_64 => ?_) (fun c_64 => ?_)
        · skip
          refine zg_iconst X (v := 0) dX7_isBlockedNow_71 (by decide) ?_
          exact zg_nret X hr (rfl) dX7_isBlockedNow_72 (Nat.le_of_ble_eq_true rfl) (Nat.le_of_ble_eq_true rfl) (⟨(bI_f (show ¬ (¬ σ.2.2 11 g = 120 ∧ cutI σ g) from fun q => c_64 (cutI_p er (by omega) e21 (by omega) q.2))).symm, rfl⟩)
        · skip
          refine zg_iconst X (v := 1) dX7_isBlockedNow_67 (by decide) ?_
          refine zg_goto X dX7_isBlockedNow_68 (tgt := 72) (by decide) ?_
          exact zg_nret X hr (rfl) dX7_isBlockedNow_72 (Nat.le_of_ble_eq_true rfl) (Nat.le_of_ble_eq_true rfl) (⟨(bI_t (show ¬ σ.2.2 11 g = 120 ∧ cutI σ g from ⟨c_8, cutI_pt er (by omega) c_22 e21 (by omega) c_64⟩)).symm, rfl⟩)
      · skip
        obtain ⟨j, hj, e21, e22, e25⟩ := hI.mgrp g hg c_45
        refine zg_iload_n X dX7_isBlockedNow_48 rfl ?_
        refine zg_goto X dX7_isBlockedNow_49 (tgt := 64) (by decide) ?_
        refine zg_if_ne X dX7_isBlockedNow_64 (tgt := 71) (by decide) (fun c_64 => ?_) (fun c_64 => ?_)
        · skip
          refine zg_iconst X (v := 0) dX7_isBlockedNow_71 (by decide) ?_
          exact zg_nret X hr (rfl) dX7_isBlockedNow_72 (Nat.le_of_ble_eq_true rfl) (Nat.le_of_ble_eq_true rfl) (⟨(bI_f (show ¬ (¬ σ.2.2 11 g = 120 ∧ cutI σ g) from fun q => c_64 (cutI_g er (by omega) e21 q.2))).symm, rfl⟩)
        · skip
          refine zg_iconst X (v := 1) dX7_isBlockedNow_67 (by decide) ?_
          refine zg_goto X dX7_isBlockedNow_68 (tgt := 72) (by decide) ?_
          exact zg_nret X hr (rfl) dX7_isBlockedNow_72 (Nat.le_of_ble_eq_true rfl) (Nat.le_of_ble_eq_true rfl) (⟨(bI_t (show ¬ σ.2.2 11 g = 120 ∧ cutI σ g from ⟨c_8, cutI_gt er (by omega) c_22 e21 c_64⟩)).symm, rfl⟩)
    · skip
      refine zg_iconst X (v := 0) dX7_isBlockedNow_25 (by decide) ?_
      exact zg_nret X hr (rfl) dX7_isBlockedNow_26 (Nat.le_of_ble_eq_true rfl) (Nat.le_of_ble_eq_true rfl) (⟨(bI_f (show ¬ (¬ σ.2.2 11 g = 120 ∧ cutI σ g) from fun q => q.2.1 (by rw [er, ix_nI (by omega)]; exact c_22))).symm, rfl⟩)

set_option maxHeartbeats 4000000 in
set_option maxRecDepth 100000 in
theorem k_X7_ends (l : Launch) (D : va_G) (ad : Nat → Nat) (T : Nat → ClassId) (σ : ZS) (hI : zI σ) (g : Nat) (hg : g < σ.1 3) (hR : zR σ) : zM l yX7_ends wsX7_ends ({ frames := 1, cells := 0, slots := 0, locals := 24 }) D (zT T) [.ref (ad 0), .int (nI g)] (wM ad T σ) 0 0 (qV D (zT T) (fun w => w = wM ad T (endI σ g))) := by
  have hB0 := hI.bd
  obtain ⟨b0, b1, b2, b3, b4, b5⟩ := hI.bd
  obtain ⟨r0, hr0, er⟩ := hI.gRt g hg
  refine zg_of (cc := cX7_ends) (maxL := 2) (ret := none) (by decide) rfl (Nat.le_of_ble_eq_true rfl) (fun p e s m below meth c A hin hr X => ?_)
  have X : zC p s m _ meth c cX7_ends 2 wsX7_ends RX7 D (zT T) A := X
  have f7 : ∀ w ∈ u_ws RX7 TX7 37, w ∈ wsX7_ends := by decide +kernel
  have l34 : Cond.fieldLink RX7 34 "RecertifyModel" "denied" "[I" ∈ wsX7_ends := by decide +kernel
  have l37 : Cond.fieldLink RX7 37 "RecertifyModel" "rightOf" "[I" ∈ wsX7_ends := by decide +kernel
  have l40 : Cond.fieldLink RX7 40 "RecertifyModel" "targets" "[I" ∈ wsX7_ends := by decide +kernel
  have l53 : Cond.fieldLink RX7 53 "RecertifyModel" "isToGroup" "[Z" ∈ wsX7_ends := by decide +kernel
  have l56 : Cond.fieldLink RX7 56 "RecertifyModel" "states" "[C" ∈ wsX7_ends := by decide +kernel
  refine zg_aload_n X dX7_ends_0 rfl ?_
  refine rg_M_states X f7 l56 dX7_ends_1 ?_
  refine zg_iload_n X dX7_ends_4 rfl ?_
  refine zg_bipush X (v := 120) dX7_ends_5 (by decide) ?_
  refine rsM_states X (by omega) rfl dX7_ends_7 ?_
  refine zg_aload_n X dX7_ends_8 rfl ?_
  refine rg_M_isToGroup X f7 l53 dX7_ends_9 ?_
  refine zg_iload_n X dX7_ends_12 rfl ?_
  refine rlM_isToGroup X (by omega) dX7_ends_13 ?_
  refine zg_if_ne X dX7_ends_14 (tgt := 39) (by decide) (fun c_14 => ?_) (fun c_14 => ?_)
  · skip
    skip
    refine zg_aload_n X dX7_ends_39 rfl ?_
    refine zg_iload_n X dX7_ends_40 rfl ?_
    refine zg_bipush X (v := 120) dX7_ends_41 (by decide) ?_
    refine zg_callVv X (k_X7_seals l D ad T (uA σ 11 (upd (σ.2.2 11) g 120)) (by exact hI) (nI g) 120 hR rfl) zFr.rf gX7_ends_X7_seals rfl rfl rfl qv_X7_seals rfl ⟨Nat.le_of_ble_eq_true rfl, Nat.le_of_ble_eq_true rfl⟩ (q0 := 0) (ci := 9) rfl rfl rfl (Nat.le_of_ble_eq_true rfl) ⟨Nat.le_of_ble_eq_true rfl, Nat.le_of_ble_eq_true rfl⟩ dX7_ends_43 (fun w1 hz9 => ?_)
    obtain rfl := hz9
    exact zg_vret X hr dX7_ends_46 (Nat.le_of_ble_eq_true rfl) (Nat.le_of_ble_eq_true rfl) (by obtain ⟨j, hj, e21, e22, e25⟩ := hI.mgrp g hg c_14; rw [endI, if_pos e21]; rfl)
  · skip
    obtain ⟨j, hj, e21, e25⟩ := hI.mper g hg c_14
    refine zg_aload_n X dX7_ends_17 rfl ?_
    refine rg_M_denied X f7 l34 dX7_ends_18 ?_
    refine zg_aload_n X dX7_ends_21 rfl ?_
    refine rg_M_rightOf X f7 l37 dX7_ends_22 ?_
    refine zg_iload_n X dX7_ends_25 rfl ?_
    refine rlM_gRight X (by omega) dX7_ends_26 ?_
    refine zg_top (show _ = nI r0 from er) ?_
    refine zg_dup2 X dX7_ends_27 rfl rfl ?_
    refine rlM_denied X (by omega) dX7_ends_28 ?_
    refine zg_iconst X (v := 1) dX7_ends_29 (by decide) ?_
    refine zg_aload_n X dX7_ends_30 rfl ?_
    refine rg_M_targets X f7 l40 dX7_ends_31 ?_
    refine zg_iload_n X dX7_ends_34 rfl ?_
    refine rlM_targets X (by omega) dX7_ends_35 ?_
    refine zg_top (show _ = nI j from e25) ?_
    refine zg_ishl X dX7_ends_36 ?_
    refine zg_ior X dX7_ends_37 ?_
    refine rsM_denied X (by omega) dX7_ends_38 ?_
    skip
    refine zg_aload_n X dX7_ends_39 rfl ?_
    refine zg_iload_n X dX7_ends_40 rfl ?_
    refine zg_bipush X (v := 120) dX7_ends_41 (by decide) ?_
    refine zg_callVv X (k_X7_seals l D ad T (uA (uA σ 11 (upd (σ.2.2 11) g 120)) 8 (upd (σ.2.2 8) r0 (σ.2.2 8 r0 ||| bt1 j))) (zI_d8 hI hr0 hj) (nI g) 120 hR rfl) zFr.rf gX7_ends_X7_seals rfl rfl rfl qv_X7_seals rfl ⟨Nat.le_of_ble_eq_true rfl, Nat.le_of_ble_eq_true rfl⟩ (q0 := 0) (ci := 9) rfl rfl rfl (Nat.le_of_ble_eq_true rfl) ⟨Nat.le_of_ble_eq_true rfl, Nat.le_of_ble_eq_true rfl⟩ dX7_ends_43 (fun w1 hz9 => ?_)
    obtain rfl := hz9
    exact zg_vret X hr dX7_ends_46 (Nat.le_of_ble_eq_true rfl) (Nat.le_of_ble_eq_true rfl) (by rw [endI, if_neg (by rw [e21]; exact nI_m1 (by omega)), er, e21, ix_nI (by omega), ix_nI (by omega)]; rfl)
