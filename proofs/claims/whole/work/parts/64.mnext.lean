/-! rows of methods, laid by a program of mine (wip/whole/walk.py) out of the bytecode and annotations -/
theorem qd_X7_nextItem : yX7_nextItem.cls ≠ "java/lang/invoke/MethodHandle" ∧ yX7_nextItem.cls ≠ "java/lang/invoke/VarHandle" ∧ (parseMethodDescriptor yX7_nextItem.desc).map (fun d => d.parameters.length) = some 1 := by decide +kernel
theorem qv_X7_nextItem : yX7_nextItem.cls = RX7 ∧ yX7_nextItem.cls ≠ "java/lang/invoke/MethodHandle" ∧ yX7_nextItem.cls ≠ "java/lang/invoke/VarHandle" ∧ (parseMethodDescriptor yX7_nextItem.desc).map (fun d => d.parameters.length) = some 1 := ⟨rfl, qd_X7_nextItem⟩
theorem nx_at {σ : ZS} {x a b : Int32} {n : Nat} (h : (a, b) = fN (nxF σ x) (-1, 0) n) (hn : n < 2 ^ 31) (ha : ¬ a < 0) : ∃ j, j < n ∧ a = nI j ∧ b = rgI σ (ix (σ.2.2 16 j)) := by
  rcases nx_inv (σ := σ) (x := x) n hn with e | ⟨j, hj, e⟩
  · rw [e] at h
    have h1 : a = -1 := congrArg Prod.fst h
    rw [h1] at ha
    exact absurd (by decide) ha
  · rw [e] at h
    exact ⟨j, hj, congrArg Prod.fst h, congrArg Prod.snd h⟩
theorem nx_m1 {σ : ZS} {x a b : Int32} {n : Nat} (h : (a, b) = fN (nxF σ x) (-1, 0) n) (hn : n < 2 ^ 31) (ha : a < 0) : a = -1 := by
  rcases nx_inv (σ := σ) (x := x) n hn with e | ⟨j, hj, e⟩
  · rw [e] at h
    exact congrArg Prod.fst h
  · rw [e] at h
    have h1 : a = nI j := congrArg Prod.fst h
    rw [h1] at ha
    exact absurd (nI_pos' (n := j) (by omega)) (zi_lt.mp ha)
set_option maxHeartbeats 4000000 in
set_option maxRecDepth 100000 in
theorem k_X7_nextItem (l : Launch) (D : va_G) (ad : Nat → Nat) (T : Nat → ClassId) (σ : ZS) (hI : zI σ) (x : Int32)  : zM l yX7_nextItem wsX7_nextItem ({ frames := 7, cells := 0, slots := 0, locals := 164 }) D (zT T) [.ref (ad 0), .int x] (wM ad T σ) 0 0 (qI D (zT T) (fun v0 w => ∃ t, mR [eNS, eIS] σ (sp_nextItem σ x) v0 t ∧ w = wM ad T t)) := by
  have hB0 := hI.bd
  obtain ⟨b0, b1, b2, b3, b4, b5⟩ := hI.bd
  refine zg_of (cc := cX7_nextItem) (maxL := 4) (ret := (some .int)) (by decide) rfl (Nat.le_of_ble_eq_true rfl) (fun p e s m below meth c A hin hr X => ?_)
  have X : zC p s m _ meth c cX7_nextItem 4 wsX7_nextItem RX7 D (zT T) A := X
  have f7 : ∀ w ∈ u_ws RX7 TX7 37, w ∈ wsX7_nextItem := by decide +kernel
  have l179 : Cond.fieldLink RX7 179 "RecertifyModel" "items" "I" ∈ wsX7_nextItem := by decide +kernel
  have l73 : Cond.fieldLink RX7 73 "RecertifyModel" "itemGrants" "[I" ∈ wsX7_nextItem := by decide +kernel
  have l79 : Cond.fieldLink RX7 79 "RecertifyModel" "verdicts" "[C" ∈ wsX7_nextItem := by decide +kernel
  have l85 : Cond.fieldLink RX7 85 "RecertifyModel" "thrown" "I" ∈ wsX7_nextItem := by decide +kernel
  refine zg_aload_n X dX7_nextItem_0 rfl ?_
  refine zg_iconst X (v := 0) dX7_nextItem_1 (by decide) ?_
  refine rp_M_thrown X f7 l85 dX7_nextItem_2 ?_
  refine zg_aload_n X dX7_nextItem_5 rfl ?_
  refine zg_iload_n X dX7_nextItem_6 rfl ?_
  refine zg_callVi X (k_X7_isPerson l D ad T (uN σ 8 0) hB0 _) zFr.rf gX7_nextItem_X7_isPerson rfl rfl rfl qv_X7_isPerson rfl ⟨Nat.le_of_ble_eq_true rfl, Nat.le_of_ble_eq_true rfl⟩ (q0 := 0) (ci := 9) rfl rfl rfl (Nat.le_of_ble_eq_true rfl) ⟨Nat.le_of_ble_eq_true rfl, Nat.le_of_ble_eq_true rfl⟩ dX7_nextItem_7 (fun r w1 hz9 => ?_)
  obtain ⟨rfl, rfl⟩ := hz9
  refine zg_if_neb X dX7_nextItem_10 (tgt := 19) (by decide) (fun c_10 => ?_) (fun c_10 => ?_)
  · skip
    have p0 : pIn x (σ.1 0) := c_10
    obtain ⟨j0, h0, e0⟩ := pIn_idx (by omega) p0
    subst e0
    have k0 : j0 < 2 ^ 31 := by omega
    refine zg_iconst X (v := (-1)) dX7_nextItem_19 (by decide) ?_
    refine zg_istore_n X dX7_nextItem_20 (by decide) ?_
    refine zg_iconst X (v := 0) dX7_nextItem_21 (by decide) ?_
    refine zg_istore_n X dX7_nextItem_22 (by decide) ?_
    have LP23 : ∀ (fu : Nat) (i : Nat) (bst : Int32) (rk : Int32), σ.1 4 + 1 ≤ i + fu → i ≤ σ.1 4 → (bst, rk) = fN (nxF σ (nI j0)) (-1, 0) i → zG p l e (headSpec wsX7_nextItem ({ frames := 7, cells := 0, slots := 0, locals := 164 })).room s m [.ref (ad 0), .int (nI j0)].toArray below meth c D 4 A 0 0 (MQ below (qI D (zT T) (fun v0 w => ∃ t, mR [eNS, eIS] σ (sp_nextItem σ (nI j0)) v0 t ∧ w = wM ad T t) A) [.ref (ad 0), .int (nI j0)].toArray s 0 0 A) (wM ad T (uN σ 8 0)) 23 [(0, .ref (ad 0)), (1, .int (nI j0)), (2, .int bst), (3, .int (nI i))] [] := by
      intro fu
      induction fu with
      | zero => intro i bst rk hfu hii _; exact absurd hfu (by omega)
      | succ fu ih23 =>
        intro i bst rk hfu hii hb
        refine zg_iload_n X dX7_nextItem_23 rfl ?_
        refine zg_aload_n X dX7_nextItem_24 rfl ?_
        refine rg_M_items X f7 l179 dX7_nextItem_25 ?_
        refine zg_icmpn_ge X dX7_nextItem_28 (tgt := 94) (by decide) (a := i) (b := σ.1 4) (by omega) (by omega) (fun c_28 => ?_) (fun c_28 => ?_)
        · skip
          have hx : nxI σ (nI j0) = bst := by rw [nxI, show σ.1 4 = i by omega, ← hb]
          refine zg_iload_n X dX7_nextItem_94 rfl ?_
          refine zg_if_ge X dX7_nextItem_95 (tgt := 106) (by decide) (fun c_95 => ?_) (fun c_95 => ?_)
          · skip
            refine zg_iload_n X dX7_nextItem_106 rfl ?_
            exact zg_iret X hr dX7_nextItem_107 (Nat.le_of_ble_eq_true rfl) (Nat.le_of_ble_eq_true rfl) (⟨uN σ 8 0, mR_r (by rw [sp_nextItem, if_pos p0, hx, if_neg (fun q => absurd c_95 (by rw [q]; decide))] <;> rfl), rfl⟩)
          · skip
            refine zg_aload_n X dX7_nextItem_98 rfl ?_
            refine zg_iconst X (v := 2) dX7_nextItem_99 (by decide) ?_
            refine zg_callVi X (k_X7_fails l D ad T (uN σ 8 0) 2) zFr.rf gX7_nextItem_X7_fails rfl rfl rfl qv_X7_fails rfl ⟨Nat.le_of_ble_eq_true rfl, Nat.le_of_ble_eq_true rfl⟩ (q0 := 0) (ci := 9) rfl rfl rfl (Nat.le_of_ble_eq_true rfl) ⟨Nat.le_of_ble_eq_true rfl, Nat.le_of_ble_eq_true rfl⟩ dX7_nextItem_100 (fun r w1 hz9 => ?_)
            obtain ⟨rfl, rfl⟩ := hz9
            refine zg_goto X dX7_nextItem_103 (tgt := 107) (by decide) ?_
            exact zg_iret X hr dX7_nextItem_107 (Nat.le_of_ble_eq_true rfl) (Nat.le_of_ble_eq_true rfl) (⟨uN (uN σ 8 0) 8 2, mR_f 1 (by rw [sp_nextItem, if_pos p0, hx, if_pos (nx_m1 hb (by omega) (zi_lt.mpr c_95))]) rfl rfl, rfl⟩)
        · skip
          refine zg_aload_n X dX7_nextItem_31 rfl ?_
          refine rg_M_verdicts X f7 l79 dX7_nextItem_32 ?_
          refine zg_iload_n X dX7_nextItem_35 rfl ?_
          refine rlM_verdicts X (by omega) dX7_nextItem_36 ?_
          refine zg_bipush X (v := 117) dX7_nextItem_37 (by decide) ?_
          refine zg_icmp_ne X dX7_nextItem_39 (tgt := 88) (by decide) (fun c_39 => ?_) (fun c_39 => ?_)
          · skip
            refine zg_iinc1 X dX7_nextItem_88 (by decide) rfl ?_
            refine zg_goto X dX7_nextItem_91 (tgt := 23) (by decide) ?_
            exact zg_lv (by exact ⟨rfl, rfl, rfl, rfl, trivial⟩) (ih23 (i + 1) bst rk (by omega) (by omega) (by rw [fN, ← hb, nxF]; exact (if_neg (fun h => c_39 h.1)).symm))
          · skip
            refine zg_aload_n X dX7_nextItem_42 rfl ?_
            refine zg_aload_n X dX7_nextItem_43 rfl ?_
            refine rg_M_itemGrants X f7 l73 dX7_nextItem_44 ?_
            refine zg_iload_n X dX7_nextItem_47 rfl ?_
            refine rlM_itemGrants X (by omega) dX7_nextItem_48 ?_
            obtain ⟨g0, hg0, eg⟩ := hI.itm i (by omega)
            have hg31 : g0 < 2 ^ 31 := by omega
            refine zg_top (show _ = nI g0 from eg) ?_
            refine zg_callVi X (k_X7_reviewer l D ad T (uN σ 8 0) hI g0 hg0) zFr.rf gX7_nextItem_X7_reviewer rfl rfl rfl qv_X7_reviewer rfl ⟨Nat.le_of_ble_eq_true rfl, Nat.le_of_ble_eq_true rfl⟩ (q0 := 0) (ci := 9) rfl rfl rfl (Nat.le_of_ble_eq_true rfl) ⟨Nat.le_of_ble_eq_true rfl, Nat.le_of_ble_eq_true rfl⟩ dX7_nextItem_49 (fun r w1 hz9 => ?_)
            obtain ⟨rfl, rfl⟩ := hz9
            refine zg_top revI_8 ?_
            refine zg_iload_n X dX7_nextItem_52 rfl ?_
            refine zg_icmp_eq X dX7_nextItem_53 (tgt := 59) (by decide) (fun c_53 => ?_) (fun c_53 => ?_)
            · skip
              refine zg_iload_n X dX7_nextItem_59 rfl ?_
              refine zg_if_lt X dX7_nextItem_60 (tgt := 86) (by decide) (fun c_60 => ?_) (fun c_60 => ?_)
              · skip
                refine zg_iload_n X dX7_nextItem_86 rfl ?_
                refine zg_istore_n X dX7_nextItem_87 (by decide) ?_
                refine zg_iinc1 X dX7_nextItem_88 (by decide) rfl ?_
                refine zg_goto X dX7_nextItem_91 (tgt := 23) (by decide) ?_
                exact zg_lv (by exact ⟨rfl, rfl, rfl, rfl, trivial⟩) (ih23 (i + 1) (nI i) (rgI σ g0) (by omega) (by omega) (by rw [fN, ← hb, nxF, eg, ix_nI hg31, if_pos (show σ.2.2 17 i = 117 ∧ revI σ g0 = nI j0 from ⟨c_39, c_53⟩)]; exact (if_pos (Or.inl (nx_m1 hb (by omega) c_60))).symm))
              · skip
                obtain ⟨jb, hjb, eb, er⟩ := nx_at hb (by omega) c_60
                subst eb
                refine zg_aload_n X dX7_nextItem_63 rfl ?_
                refine zg_aload_n X dX7_nextItem_64 rfl ?_
                refine rg_M_itemGrants X f7 l73 dX7_nextItem_65 ?_
                refine zg_iload_n X dX7_nextItem_68 rfl ?_
                refine rlM_itemGrants X (by omega) dX7_nextItem_69 ?_
                refine zg_top (show _ = nI g0 from eg) ?_
                refine zg_callVi X (k_X7_riskOfGrant l D ad T (uN σ 8 0) hI g0 hg0) zFr.rf gX7_nextItem_X7_riskOfGrant rfl rfl rfl qv_X7_riskOfGrant rfl ⟨Nat.le_of_ble_eq_true rfl, Nat.le_of_ble_eq_true rfl⟩ (q0 := 0) (ci := 9) rfl rfl rfl (Nat.le_of_ble_eq_true rfl) ⟨Nat.le_of_ble_eq_true rfl, Nat.le_of_ble_eq_true rfl⟩ dX7_nextItem_70 (fun r w1 hz9 => ?_)
                obtain ⟨rfl, rfl⟩ := hz9
                refine zg_top (v' := rgI σ g0) rfl ?_
                refine zg_aload_n X dX7_nextItem_73 rfl ?_
                refine zg_aload_n X dX7_nextItem_74 rfl ?_
                refine rg_M_itemGrants X f7 l73 dX7_nextItem_75 ?_
                refine zg_iload_n X dX7_nextItem_78 rfl ?_
                refine rlM_itemGrants X (by omega) dX7_nextItem_79 ?_
                obtain ⟨g1, hg1, eg1⟩ := hI.itm jb (by omega)
                refine zg_top (show _ = nI g1 from eg1) ?_
                refine zg_callVi X (k_X7_riskOfGrant l D ad T (uN σ 8 0) hI g1 hg1) zFr.rf gX7_nextItem_X7_riskOfGrant rfl rfl rfl qv_X7_riskOfGrant rfl ⟨Nat.le_of_ble_eq_true rfl, Nat.le_of_ble_eq_true rfl⟩ (q0 := 0) (ci := 9) rfl rfl rfl (Nat.le_of_ble_eq_true rfl) ⟨Nat.le_of_ble_eq_true rfl, Nat.le_of_ble_eq_true rfl⟩ dX7_nextItem_80 (fun r w1 hz9 => ?_)
                obtain ⟨rfl, rfl⟩ := hz9
                refine zg_top (v' := rk) (by rw [er, eg1, ix_nI (by omega)] <;> rfl) ?_
                refine zg_icmp_le X dX7_nextItem_83 (tgt := 88) (by decide) (fun c_83 => ?_) (fun c_83 => ?_)
                · skip
                  refine zg_iinc1 X dX7_nextItem_88 (by decide) rfl ?_
                  refine zg_goto X dX7_nextItem_91 (tgt := 23) (by decide) ?_
                  exact zg_lv (by exact ⟨rfl, rfl, rfl, rfl, trivial⟩) (ih23 (i + 1) (nI jb) rk (by omega) (by omega) (by rw [fN, ← hb, nxF, eg, ix_nI hg31, if_pos (show σ.2.2 17 i = 117 ∧ revI σ g0 = nI j0 from ⟨c_39, c_53⟩)]; exact (if_neg (fun h => h.elim (nI_m1 (by omega)) (fun q => zi_lt.mp q c_83))).symm))
                · skip
                  refine zg_iload_n X dX7_nextItem_86 rfl ?_
                  refine zg_istore_n X dX7_nextItem_87 (by decide) ?_
                  refine zg_iinc1 X dX7_nextItem_88 (by decide) rfl ?_
                  refine zg_goto X dX7_nextItem_91 (tgt := 23) (by decide) ?_
                  exact zg_lv (by exact ⟨rfl, rfl, rfl, rfl, trivial⟩) (ih23 (i + 1) (nI i) (rgI σ g0) (by omega) (by omega) (by rw [fN, ← hb, nxF, eg, ix_nI hg31, if_pos (show σ.2.2 17 i = 117 ∧ revI σ g0 = nI j0 from ⟨c_39, c_53⟩)]; exact (if_pos (Or.inr (zi_lt.mpr c_83))).symm))
            · skip
              refine zg_goto X dX7_nextItem_56 (tgt := 88) (by decide) ?_
              refine zg_iinc1 X dX7_nextItem_88 (by decide) rfl ?_
              refine zg_goto X dX7_nextItem_91 (tgt := 23) (by decide) ?_
              exact zg_lv (by exact ⟨rfl, rfl, rfl, rfl, trivial⟩) (ih23 (i + 1) bst rk (by omega) (by omega) (by rw [fN, ← hb, nxF, eg, ix_nI hg31]; exact (if_neg (fun h => c_53 h.2)).symm))
    exact zg_lv (by exact ⟨rfl, rfl, rfl, rfl, trivial⟩) (LP23 (σ.1 4 + 1) 0 (-1) 0 (by omega) (by omega) rfl)
  · skip
    refine zg_aload_n X dX7_nextItem_13 rfl ?_
    refine zg_iconst X (v := 1) dX7_nextItem_14 (by decide) ?_
    refine zg_callVi X (k_X7_fails l D ad T (uN σ 8 0) 1) zFr.rf gX7_nextItem_X7_fails rfl rfl rfl qv_X7_fails rfl ⟨Nat.le_of_ble_eq_true rfl, Nat.le_of_ble_eq_true rfl⟩ (q0 := 0) (ci := 9) rfl rfl rfl (Nat.le_of_ble_eq_true rfl) ⟨Nat.le_of_ble_eq_true rfl, Nat.le_of_ble_eq_true rfl⟩ dX7_nextItem_15 (fun r w1 hz9 => ?_)
    obtain ⟨rfl, rfl⟩ := hz9
    exact zg_iret X hr dX7_nextItem_18 (Nat.le_of_ble_eq_true rfl) (Nat.le_of_ble_eq_true rfl) (⟨uN (uN σ 8 0) 8 1, mR_f 0 (by rw [sp_nextItem, if_neg (show ¬ pIn x (σ.1 0) from c_10)]) rfl rfl, rfl⟩)
