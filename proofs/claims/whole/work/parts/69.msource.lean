/-! rows of methods, laid by a program of mine (wip/whole/walk.py) out of the bytecode and annotations -/
theorem qd_X7_source : yX7_source.cls ≠ "java/lang/invoke/MethodHandle" ∧ yX7_source.cls ≠ "java/lang/invoke/VarHandle" ∧ (parseMethodDescriptor yX7_source.desc).map (fun d => d.parameters.length) = some 2 := by decide +kernel
theorem qv_X7_source : yX7_source.cls = RX7 ∧ yX7_source.cls ≠ "java/lang/invoke/MethodHandle" ∧ yX7_source.cls ≠ "java/lang/invoke/VarHandle" ∧ (parseMethodDescriptor yX7_source.desc).map (fun d => d.parameters.length) = some 2 := ⟨rfl, qd_X7_source⟩
def srF (σ : ZS) (q r : Nat) (g : Nat) (b : Int32) : Int32 := if actOf σ g (nI r) ∧ ¬ σ.2.2 26 g = 0 ∧ ¬ lsX σ q 8 (ix (σ.2.2 25 g)) = 99 ∧ (b < 0 ∨ lsX σ q 8 (ix (σ.2.2 25 g)) < lsX σ q 8 (ix b) ∨ (lsX σ q 8 (ix (σ.2.2 25 g)) = lsX σ q 8 (ix b) ∧ σ.2.2 25 g < b)) then σ.2.2 25 g else b
/-- -1: granted to the person; else the group with the best path, or -2 -/
def srI (σ : ZS) (q r : Nat) : Int32 := if hasAct σ (nI r) (nI q) (-1) then -1 else fN (srF σ q r) (-2) (σ.1 3)
theorem sr_p {σ : ZS} {q r g : Nat} (hg : g < σ.1 3) (ha : actOf σ g (nI r)) (e1 : σ.2.2 21 g = nI q) (e2 : σ.2.2 22 g = -1) : srI σ q r = -1 := if_pos (exB_t hg ⟨ha, e1, e2⟩)
theorem sr_22 {σ : ZS} (hI : zI σ) {g : Nat} (hg : g < σ.1 3) (c : σ.2.2 26 g = 0) : σ.2.2 22 g = -1 := by
  rcases hI.tgt g hg with ⟨j, hj, -, e, -, -⟩ | ⟨j, hj, -, -, -, e⟩
  · exact e
  · rw [e] at c
    exact absurd c (by decide)
theorem sr_21 {σ : ZS} (hI : zI σ) {g : Nat} (hg : g < σ.1 3) (c : ¬ σ.2.2 26 g = 0) : σ.2.2 21 g = -1 := by
  obtain ⟨j, hj, e, -⟩ := hI.mgrp g hg c
  exact e
set_option maxHeartbeats 4000000 in
set_option maxRecDepth 100000 in
theorem k_X7_source (l : Launch) (D : va_G) (ad : Nat → Nat) (T : Nat → ClassId) (σ : ZS) (hI : zI σ) (q r : Nat) (hq0 : q < σ.1 0) : zM l yX7_source wsX7_source ({ frames := 12, cells := 0, slots := 0, locals := 604 }) D (zT T) [.ref (ad 0), .int (nI q), .int (nI r)] (wM ad T σ) 0 0 (qI D (zT T) (fun v0 w => v0 = srI σ q r ∧ w = wM ad T (σ))) := by
  have hB0 := hI.bd
  obtain ⟨b0, b1, b2, b3, b4, b5⟩ := hI.bd
  refine zg_of (cc := cX7_source) (maxL := 6) (ret := (some .int)) (by decide) rfl (Nat.le_of_ble_eq_true rfl) (fun p e s m below meth c A hin hr X => ?_)
  have X : zC p s m _ meth c cX7_source 6 wsX7_source RX7 D (zT T) A := X
  have f7 : ∀ w ∈ u_ws RX7 TX7 37, w ∈ wsX7_source := by decide +kernel
  have l105 : Cond.fieldLink RX7 105 "RecertifyModel" "grants" "I" ∈ wsX7_source := by decide +kernel
  have l37 : Cond.fieldLink RX7 37 "RecertifyModel" "rightOf" "[I" ∈ wsX7_source := by decide +kernel
  have l40 : Cond.fieldLink RX7 40 "RecertifyModel" "targets" "[I" ∈ wsX7_source := by decide +kernel
  have l53 : Cond.fieldLink RX7 53 "RecertifyModel" "isToGroup" "[Z" ∈ wsX7_source := by decide +kernel
  have l56 : Cond.fieldLink RX7 56 "RecertifyModel" "states" "[C" ∈ wsX7_source := by decide +kernel
  refine zg_bipush X (v := (-2)) dX7_source_0 (by decide) ?_
  refine zg_istore_n X dX7_source_2 (by decide) ?_
  refine zg_iconst X (v := 0) dX7_source_3 (by decide) ?_
  refine zg_istore X dX7_source_4 (by decide) ?_
  have LP6 : ∀ (fu : Nat) (i : Nat) (bst : Int32), σ.1 3 + 1 ≤ i + fu → i ≤ σ.1 3 → bst = fN (srF σ q r) (-2) i → (∀ a, a < i → ¬ (actOf σ a (nI r) ∧ σ.2.2 21 a = nI q ∧ σ.2.2 22 a = -1)) → bst = -2 ∨ zIdx bst (σ.1 1) → zG p l e (headSpec wsX7_source ({ frames := 12, cells := 0, slots := 0, locals := 604 })).room s m [.ref (ad 0), .int (nI q), .int (nI r)].toArray below meth c D 6 A 0 0 (MQ below (qI D (zT T) (fun v0 w => v0 = srI σ q r ∧ w = wM ad T (σ)) A) [.ref (ad 0), .int (nI q), .int (nI r)].toArray s 0 0 A) (wM ad T σ) 6 [(0, .ref (ad 0)), (1, .int (nI q)), (2, .int (nI r)), (3, .int bst), (4, .int (nI i))] [] := by
    intro fu
    induction fu with
    | zero => intro i bst hfu hii _ _ _; exact absurd hfu (by omega)
    | succ fu ih6 =>
      intro i bst hfu hii hbst hq hbj
      refine zg_iload X dX7_source_6 rfl ?_
      refine zg_aload_n X dX7_source_8 rfl ?_
      refine rg_M_grants X f7 l105 dX7_source_9 ?_
      refine zg_icmpn_ge X dX7_source_12 (tgt := 181) (by decide) (a := i) (b := σ.1 3) (by omega) (by omega) (fun c_12 => ?_) (fun c_12 => ?_)
      · skip
        refine zg_iload_n X dX7_source_181 rfl ?_
        exact zg_iret X hr dX7_source_182 (Nat.le_of_ble_eq_true rfl) (Nat.le_of_ble_eq_true rfl) (⟨by rw [srI, if_neg (exB_f (fun a ha => hq a (by omega))), hbst, show i = σ.1 3 by omega], rfl⟩)
      · skip
        refine zg_aload_n X dX7_source_15 rfl ?_
        refine rg_M_states X f7 l56 dX7_source_16 ?_
        refine zg_iload X dX7_source_19 rfl ?_
        refine rlM_states X (by omega) dX7_source_21 ?_
        refine zg_bipush X (v := 120) dX7_source_22 (by decide) ?_
        refine zg_icmp_eq X dX7_source_24 (tgt := 175) (by decide) (fun c_24 => ?_) (fun c_24 => ?_)
        · skip
          refine zg_iinc1 X dX7_source_175 (by decide) rfl ?_
          refine zg_goto X dX7_source_178 (tgt := 6) (by decide) ?_
          exact zg_lv (by exact ⟨rfl, rfl, rfl, rfl, rfl, trivial⟩) (ih6 (i + 1) bst (by omega) (by omega) (by rw [fN, ← hbst, srF]; exact (if_neg (fun h => h.1.2 c_24)).symm) (lt_s hq (fun h => h.1.2 c_24)) hbj)
        · skip
          refine zg_aload_n X dX7_source_27 rfl ?_
          refine rg_M_rightOf X f7 l37 dX7_source_28 ?_
          refine zg_iload X dX7_source_31 rfl ?_
          refine rlM_gRight X (by omega) dX7_source_33 ?_
          refine zg_iload_n X dX7_source_34 rfl ?_
          refine zg_icmp_eq X dX7_source_35 (tgt := 41) (by decide) (fun c_35 => ?_) (fun c_35 => ?_)
          · skip
            refine zg_aload_n X dX7_source_41 rfl ?_
            refine rg_M_isToGroup X f7 l53 dX7_source_42 ?_
            refine zg_iload X dX7_source_45 rfl ?_
            refine rlM_isToGroup X (by omega) dX7_source_47 ?_
            refine zg_if_ne X dX7_source_48 (tgt := 64) (by decide) (fun c_48 => ?_) (fun c_48 => ?_)
            · skip
              refine zg_aload_n X dX7_source_64 rfl ?_
              refine rg_M_isToGroup X f7 l53 dX7_source_65 ?_
              refine zg_iload X dX7_source_68 rfl ?_
              refine rlM_isToGroup X (by omega) dX7_source_70 ?_
              refine zg_if_eq X dX7_source_71 (tgt := 175) (by decide) (fun c_71 => ?_) (fun c_71 => ?_)
              · skip
                refine zg_iinc1 X dX7_source_175 (by decide) rfl ?_
                refine zg_goto X dX7_source_178 (tgt := 6) (by decide) ?_
                exact zg_lv (by exact ⟨rfl, rfl, rfl, rfl, rfl, trivial⟩) (ih6 (i + 1) bst (by omega) (by omega) (by rw [fN, ← hbst, srF]; exact (if_neg (fun h => h.2.1 c_71)).symm) (lt_s hq (fun h => nI_m1 (show q < 2 ^ 31 by omega) (h.2.1.symm.trans (sr_21 hI (by omega) c_48)))) hbj)
              · skip
                obtain ⟨jg, hjg, e21, e22, e25⟩ := hI.mgrp i (by omega) c_71
                refine zg_aload_n X dX7_source_74 rfl ?_
                refine zg_aload_n X dX7_source_75 rfl ?_
                refine rg_M_targets X f7 l40 dX7_source_76 ?_
                refine zg_iload X dX7_source_79 rfl ?_
                refine rlM_targets X (by omega) dX7_source_81 ?_
                refine zg_top (show _ = nI jg from e25) ?_
                refine zg_iload_n X dX7_source_82 rfl ?_
                refine zg_callVi X (k_X7_leastFrom l D ad T σ hI jg q hjg (by omega)) zFr.rf gX7_source_X7_leastFrom rfl rfl rfl qv_X7_leastFrom rfl ⟨Nat.le_of_ble_eq_true rfl, Nat.le_of_ble_eq_true rfl⟩ (q0 := 0) (ci := 9) rfl rfl rfl (Nat.le_of_ble_eq_true rfl) ⟨Nat.le_of_ble_eq_true rfl, Nat.le_of_ble_eq_true rfl⟩ dX7_source_83 (fun r w1 hz9 => ?_)
                obtain ⟨rfl, rfl⟩ := hz9
                refine zg_bipush X (v := 99) dX7_source_86 (by decide) ?_
                refine zg_icmp_ne X dX7_source_88 (tgt := 94) (by decide) (fun c_88 => ?_) (fun c_88 => ?_)
                · skip
                  refine zg_iload_n X dX7_source_94 rfl ?_
                  refine zg_if_lt X dX7_source_95 (tgt := 151) (by decide) (fun c_95 => ?_) (fun c_95 => ?_)
                  · skip
                    refine zg_iconst X (v := 1) dX7_source_151 (by decide) ?_
                    refine zg_goto X dX7_source_152 (tgt := 156) (by decide) ?_
                    refine zg_istore X dX7_source_156 (by decide) ?_
                    refine zg_iload X dX7_source_158 rfl ?_
                    refine zg_if_eq X dX7_source_160 (tgt := 173) (by decide) (fun q => absurd q (by decide)) (fun _ => ?_)
                    refine zg_aload_n X dX7_source_163 rfl ?_
                    refine rg_M_targets X f7 l40 dX7_source_164 ?_
                    refine zg_iload X dX7_source_167 rfl ?_
                    refine rlM_targets X (by omega) dX7_source_169 ?_
                    refine zg_top (show _ = nI jg from e25) ?_
                    refine zg_goto X dX7_source_170 (tgt := 174) (by decide) ?_
                    refine zg_istore_n X dX7_source_174 (by decide) ?_
                    refine zg_iinc1 X dX7_source_175 (by decide) rfl ?_
                    refine zg_goto X dX7_source_178 (tgt := 6) (by decide) ?_
                    exact zg_lv (by exact ⟨rfl, rfl, rfl, rfl, rfl, trivial⟩) (ih6 (i + 1) (nI jg) (by omega) (by omega) (by rw [fN, ← hbst, srF, e25, ix_nI (by omega)]; exact (if_pos ⟨(show actOf σ i (nI r) from ⟨c_35, c_24⟩), c_71, c_88, Or.inl c_95⟩).symm) (lt_s hq (fun h => nI_m1 (show q < 2 ^ 31 by omega) (h.2.1.symm.trans (sr_21 hI (by omega) c_48)))) (Or.inr ⟨jg, hjg, rfl⟩))
                  · skip
                    obtain ⟨jb, hjb, eb⟩ := hbj.resolve_left (fun q9 => c_95 (by rw [q9]; decide))
                    subst eb
                    refine zg_aload_n X dX7_source_98 rfl ?_
                    refine zg_aload_n X dX7_source_99 rfl ?_
                    refine rg_M_targets X f7 l40 dX7_source_100 ?_
                    refine zg_iload X dX7_source_103 rfl ?_
                    refine rlM_targets X (by omega) dX7_source_105 ?_
                    refine zg_top (show _ = nI jg from e25) ?_
                    refine zg_iload_n X dX7_source_106 rfl ?_
                    refine zg_callVi X (k_X7_leastFrom l D ad T σ hI jg q hjg (by omega)) zFr.rf gX7_source_X7_leastFrom rfl rfl rfl qv_X7_leastFrom rfl ⟨Nat.le_of_ble_eq_true rfl, Nat.le_of_ble_eq_true rfl⟩ (q0 := 0) (ci := 9) rfl rfl rfl (Nat.le_of_ble_eq_true rfl) ⟨Nat.le_of_ble_eq_true rfl, Nat.le_of_ble_eq_true rfl⟩ dX7_source_107 (fun r w1 hz9 => ?_)
                    obtain ⟨rfl, rfl⟩ := hz9
                    refine zg_aload_n X dX7_source_110 rfl ?_
                    refine zg_iload_n X dX7_source_111 rfl ?_
                    refine zg_iload_n X dX7_source_112 rfl ?_
                    refine zg_callVi X (k_X7_leastFrom l D ad T σ hI jb q hjb (by omega)) zFr.rf gX7_source_X7_leastFrom rfl rfl rfl qv_X7_leastFrom rfl ⟨Nat.le_of_ble_eq_true rfl, Nat.le_of_ble_eq_true rfl⟩ (q0 := 0) (ci := 9) rfl rfl rfl (Nat.le_of_ble_eq_true rfl) ⟨Nat.le_of_ble_eq_true rfl, Nat.le_of_ble_eq_true rfl⟩ dX7_source_113 (fun r w1 hz9 => ?_)
                    obtain ⟨rfl, rfl⟩ := hz9
                    refine zg_icmp_lt X dX7_source_116 (tgt := 151) (by decide) (fun c_116 => ?_) (fun c_116 => ?_)
                    · skip
                      refine zg_iconst X (v := 1) dX7_source_151 (by decide) ?_
                      refine zg_goto X dX7_source_152 (tgt := 156) (by decide) ?_
                      refine zg_istore X dX7_source_156 (by decide) ?_
                      refine zg_iload X dX7_source_158 rfl ?_
                      refine zg_if_eq X dX7_source_160 (tgt := 173) (by decide) (fun q => absurd q (by decide)) (fun _ => ?_)
                      refine zg_aload_n X dX7_source_163 rfl ?_
                      refine rg_M_targets X f7 l40 dX7_source_164 ?_
                      refine zg_iload X dX7_source_167 rfl ?_
                      refine rlM_targets X (by omega) dX7_source_169 ?_
                      refine zg_top (show _ = nI jg from e25) ?_
                      refine zg_goto X dX7_source_170 (tgt := 174) (by decide) ?_
                      refine zg_istore_n X dX7_source_174 (by decide) ?_
                      refine zg_iinc1 X dX7_source_175 (by decide) rfl ?_
                      refine zg_goto X dX7_source_178 (tgt := 6) (by decide) ?_
                      exact zg_lv (by exact ⟨rfl, rfl, rfl, rfl, rfl, trivial⟩) (ih6 (i + 1) (nI jg) (by omega) (by omega) (by rw [fN, ← hbst, srF, e25, ix_nI (by omega), ix_nI (j := jb) (by omega)]; exact (if_pos ⟨(show actOf σ i (nI r) from ⟨c_35, c_24⟩), c_71, c_88, Or.inr (Or.inl c_116)⟩).symm) (lt_s hq (fun h => nI_m1 (show q < 2 ^ 31 by omega) (h.2.1.symm.trans (sr_21 hI (by omega) c_48)))) (Or.inr ⟨jg, hjg, rfl⟩))
                    · skip
                      refine zg_aload_n X dX7_source_119 rfl ?_
                      refine zg_aload_n X dX7_source_120 rfl ?_
                      refine rg_M_targets X f7 l40 dX7_source_121 ?_
                      refine zg_iload X dX7_source_124 rfl ?_
                      refine rlM_targets X (by omega) dX7_source_126 ?_
                      refine zg_top (show _ = nI jg from e25) ?_
                      refine zg_iload_n X dX7_source_127 rfl ?_
                      refine zg_callVi X (k_X7_leastFrom l D ad T σ hI jg q hjg (by omega)) zFr.rf gX7_source_X7_leastFrom rfl rfl rfl qv_X7_leastFrom rfl ⟨Nat.le_of_ble_eq_true rfl, Nat.le_of_ble_eq_true rfl⟩ (q0 := 0) (ci := 9) rfl rfl rfl (Nat.le_of_ble_eq_true rfl) ⟨Nat.le_of_ble_eq_true rfl, Nat.le_of_ble_eq_true rfl⟩ dX7_source_128 (fun r w1 hz9 => ?_)
                      obtain ⟨rfl, rfl⟩ := hz9
                      refine zg_aload_n X dX7_source_131 rfl ?_
                      refine zg_iload_n X dX7_source_132 rfl ?_
                      refine zg_iload_n X dX7_source_133 rfl ?_
                      refine zg_callVi X (k_X7_leastFrom l D ad T σ hI jb q hjb (by omega)) zFr.rf gX7_source_X7_leastFrom rfl rfl rfl qv_X7_leastFrom rfl ⟨Nat.le_of_ble_eq_true rfl, Nat.le_of_ble_eq_true rfl⟩ (q0 := 0) (ci := 9) rfl rfl rfl (Nat.le_of_ble_eq_true rfl) ⟨Nat.le_of_ble_eq_true rfl, Nat.le_of_ble_eq_true rfl⟩ dX7_source_134 (fun r w1 hz9 => ?_)
                      obtain ⟨rfl, rfl⟩ := hz9
                      refine zg_icmp_ne X dX7_source_137 (tgt := 155) (by decide) (fun c_137 => ?_) (fun c_137 => ?_)
                      · skip
                        refine zg_iconst X (v := 0) dX7_source_155 (by decide) ?_
                        refine zg_istore X dX7_source_156 (by decide) ?_
                        refine zg_iload X dX7_source_158 rfl ?_
                        refine zg_if_eq X dX7_source_160 (tgt := 173) (by decide) (fun _ => ?_) (fun q => absurd q (by decide))
                        refine zg_iload_n X dX7_source_173 rfl ?_
                        refine zg_istore_n X dX7_source_174 (by decide) ?_
                        refine zg_iinc1 X dX7_source_175 (by decide) rfl ?_
                        refine zg_goto X dX7_source_178 (tgt := 6) (by decide) ?_
                        exact zg_lv (by exact ⟨rfl, rfl, rfl, rfl, rfl, trivial⟩) (ih6 (i + 1) (nI jb) (by omega) (by omega) (by rw [fN, ← hbst, srF, e25, ix_nI (by omega), ix_nI (j := jb) (by omega)]; exact (if_neg (fun h => h.2.2.2.elim c_95 (fun z => z.elim c_116 (fun z => c_137 z.1)))).symm) (lt_s hq (fun h => nI_m1 (show q < 2 ^ 31 by omega) (h.2.1.symm.trans (sr_21 hI (by omega) c_48)))) (Or.inr ⟨jb, hjb, rfl⟩))
                      · skip
                        refine zg_aload_n X dX7_source_140 rfl ?_
                        refine rg_M_targets X f7 l40 dX7_source_141 ?_
                        refine zg_iload X dX7_source_144 rfl ?_
                        refine rlM_targets X (by omega) dX7_source_146 ?_
                        refine zg_top (show _ = nI jg from e25) ?_
                        refine zg_iload_n X dX7_source_147 rfl ?_
                        refine zg_icmpn_ge X dX7_source_148 (tgt := 155) (by decide) (a := jg) (b := jb) (by omega) (by omega) (fun c_148 => ?_) (fun c_148 => ?_)
                        · skip
                          refine zg_iconst X (v := 0) dX7_source_155 (by decide) ?_
                          refine zg_istore X dX7_source_156 (by decide) ?_
                          refine zg_iload X dX7_source_158 rfl ?_
                          refine zg_if_eq X dX7_source_160 (tgt := 173) (by decide) (fun _ => ?_) (fun q => absurd q (by decide))
                          refine zg_iload_n X dX7_source_173 rfl ?_
                          refine zg_istore_n X dX7_source_174 (by decide) ?_
                          refine zg_iinc1 X dX7_source_175 (by decide) rfl ?_
                          refine zg_goto X dX7_source_178 (tgt := 6) (by decide) ?_
                          exact zg_lv (by exact ⟨rfl, rfl, rfl, rfl, rfl, trivial⟩) (ih6 (i + 1) (nI jb) (by omega) (by omega) (by rw [fN, ← hbst, srF, e25, ix_nI (by omega), ix_nI (j := jb) (by omega)]; exact (if_neg (fun h => h.2.2.2.elim c_95 (fun z => z.elim c_116 (fun z => absurd ((nI_ltI (by omega) (by omega)).mp z.2) (by omega))))).symm) (lt_s hq (fun h => nI_m1 (show q < 2 ^ 31 by omega) (h.2.1.symm.trans (sr_21 hI (by omega) c_48)))) (Or.inr ⟨jb, hjb, rfl⟩))
                        · skip
                          refine zg_iconst X (v := 1) dX7_source_151 (by decide) ?_
                          refine zg_goto X dX7_source_152 (tgt := 156) (by decide) ?_
                          refine zg_istore X dX7_source_156 (by decide) ?_
                          refine zg_iload X dX7_source_158 rfl ?_
                          refine zg_if_eq X dX7_source_160 (tgt := 173) (by decide) (fun q => absurd q (by decide)) (fun _ => ?_)
                          refine zg_aload_n X dX7_source_163 rfl ?_
                          refine rg_M_targets X f7 l40 dX7_source_164 ?_
                          refine zg_iload X dX7_source_167 rfl ?_
                          refine rlM_targets X (by omega) dX7_source_169 ?_
                          refine zg_top (show _ = nI jg from e25) ?_
                          refine zg_goto X dX7_source_170 (tgt := 174) (by decide) ?_
                          refine zg_istore_n X dX7_source_174 (by decide) ?_
                          refine zg_iinc1 X dX7_source_175 (by decide) rfl ?_
                          refine zg_goto X dX7_source_178 (tgt := 6) (by decide) ?_
                          exact zg_lv (by exact ⟨rfl, rfl, rfl, rfl, rfl, trivial⟩) (ih6 (i + 1) (nI jg) (by omega) (by omega) (by rw [fN, ← hbst, srF, e25, ix_nI (by omega), ix_nI (j := jb) (by omega)]; exact (if_pos ⟨(show actOf σ i (nI r) from ⟨c_35, c_24⟩), c_71, c_88, Or.inr (Or.inr ⟨c_137, (nI_ltI (by omega) (by omega)).mpr (by omega)⟩)⟩).symm) (lt_s hq (fun h => nI_m1 (show q < 2 ^ 31 by omega) (h.2.1.symm.trans (sr_21 hI (by omega) c_48)))) (Or.inr ⟨jg, hjg, rfl⟩))
                · skip
                  refine zg_goto X dX7_source_91 (tgt := 175) (by decide) ?_
                  refine zg_iinc1 X dX7_source_175 (by decide) rfl ?_
                  refine zg_goto X dX7_source_178 (tgt := 6) (by decide) ?_
                  exact zg_lv (by exact ⟨rfl, rfl, rfl, rfl, rfl, trivial⟩) (ih6 (i + 1) bst (by omega) (by omega) (by rw [fN, ← hbst, srF]; exact (if_neg (fun h => h.2.2.1 (by rw [e25, ix_nI (by omega)]; exact c_88))).symm) (lt_s hq (fun h => nI_m1 (show q < 2 ^ 31 by omega) (h.2.1.symm.trans (sr_21 hI (by omega) c_48)))) hbj)
            · skip
              obtain ⟨jp, hjp, e21p, e25p⟩ := hI.mper i (by omega) c_48
              refine zg_aload_n X dX7_source_51 rfl ?_
              refine rg_M_targets X f7 l40 dX7_source_52 ?_
              refine zg_iload X dX7_source_55 rfl ?_
              refine rlM_targets X (by omega) dX7_source_57 ?_
              refine zg_top (show _ = nI jp from e25p) ?_
              refine zg_iload_n X dX7_source_58 rfl ?_
              refine zg_icmpn_ne X dX7_source_59 (tgt := 64) (by decide) (a := jp) (b := q) (by omega) (by omega) (fun c_59 => ?_) (fun c_59 => ?_)
              · skip
                refine zg_aload_n X dX7_source_64 rfl ?_
                refine rg_M_isToGroup X f7 l53 dX7_source_65 ?_
                refine zg_iload X dX7_source_68 rfl ?_
                refine rlM_isToGroup X (by omega) dX7_source_70 ?_
                refine zg_if_eq X dX7_source_71 (tgt := 175) (by decide) (fun c_71 => ?_) (fun c_71 => ?_)
                · skip
                  refine zg_iinc1 X dX7_source_175 (by decide) rfl ?_
                  refine zg_goto X dX7_source_178 (tgt := 6) (by decide) ?_
                  exact zg_lv (by exact ⟨rfl, rfl, rfl, rfl, rfl, trivial⟩) (ih6 (i + 1) bst (by omega) (by omega) (by rw [fN, ← hbst, srF]; exact (if_neg (fun h => h.2.1 c_71)).symm) (lt_s hq (fun h => c_59 ((nI_eq (by omega) (by omega)).mp (e21p.symm.trans h.2.1)))) hbj)
                · skip
                  obtain ⟨jg, hjg, e21, e22, e25⟩ := hI.mgrp i (by omega) c_71
                  refine zg_aload_n X dX7_source_74 rfl ?_
                  refine zg_aload_n X dX7_source_75 rfl ?_
                  refine rg_M_targets X f7 l40 dX7_source_76 ?_
                  refine zg_iload X dX7_source_79 rfl ?_
                  refine rlM_targets X (by omega) dX7_source_81 ?_
                  refine zg_top (show _ = nI jg from e25) ?_
                  refine zg_iload_n X dX7_source_82 rfl ?_
                  refine zg_callVi X (k_X7_leastFrom l D ad T σ hI jg q hjg (by omega)) zFr.rf gX7_source_X7_leastFrom rfl rfl rfl qv_X7_leastFrom rfl ⟨Nat.le_of_ble_eq_true rfl, Nat.le_of_ble_eq_true rfl⟩ (q0 := 0) (ci := 9) rfl rfl rfl (Nat.le_of_ble_eq_true rfl) ⟨Nat.le_of_ble_eq_true rfl, Nat.le_of_ble_eq_true rfl⟩ dX7_source_83 (fun r w1 hz9 => ?_)
                  obtain ⟨rfl, rfl⟩ := hz9
                  refine zg_bipush X (v := 99) dX7_source_86 (by decide) ?_
                  refine zg_icmp_ne X dX7_source_88 (tgt := 94) (by decide) (fun c_88 => ?_) (fun c_88 => ?_)
                  · skip
                    refine zg_iload_n X dX7_source_94 rfl ?_
                    refine zg_if_lt X dX7_source_95 (tgt := 151) (by decide) (fun c_95 => ?_) (fun c_95 => ?_)
                    · skip
                      refine zg_iconst X (v := 1) dX7_source_151 (by decide) ?_
                      refine zg_goto X dX7_source_152 (tgt := 156) (by decide) ?_
                      refine zg_istore X dX7_source_156 (by decide) ?_
                      refine zg_iload X dX7_source_158 rfl ?_
                      refine zg_if_eq X dX7_source_160 (tgt := 173) (by decide) (fun q => absurd q (by decide)) (fun _ => ?_)
                      refine zg_aload_n X dX7_source_163 rfl ?_
                      refine rg_M_targets X f7 l40 dX7_source_164 ?_
                      refine zg_iload X dX7_source_167 rfl ?_
                      refine rlM_targets X (by omega) dX7_source_169 ?_
                      refine zg_top (show _ = nI jg from e25) ?_
                      refine zg_goto X dX7_source_170 (tgt := 174) (by decide) ?_
                      refine zg_istore_n X dX7_source_174 (by decide) ?_
                      refine zg_iinc1 X dX7_source_175 (by decide) rfl ?_
                      refine zg_goto X dX7_source_178 (tgt := 6) (by decide) ?_
                      exact zg_lv (by exact ⟨rfl, rfl, rfl, rfl, rfl, trivial⟩) (ih6 (i + 1) (nI jg) (by omega) (by omega) (by rw [fN, ← hbst, srF, e25, ix_nI (by omega)]; exact (if_pos ⟨(show actOf σ i (nI r) from ⟨c_35, c_24⟩), c_71, c_88, Or.inl c_95⟩).symm) (lt_s hq (fun h => c_59 ((nI_eq (by omega) (by omega)).mp (e21p.symm.trans h.2.1)))) (Or.inr ⟨jg, hjg, rfl⟩))
                    · skip
                      obtain ⟨jb, hjb, eb⟩ := hbj.resolve_left (fun q9 => c_95 (by rw [q9]; decide))
                      subst eb
                      refine zg_aload_n X dX7_source_98 rfl ?_
                      refine zg_aload_n X dX7_source_99 rfl ?_
                      refine rg_M_targets X f7 l40 dX7_source_100 ?_
                      refine zg_iload X dX7_source_103 rfl ?_
                      refine rlM_targets X (by omega) dX7_source_105 ?_
                      refine zg_top (show _ = nI jg from e25) ?_
                      refine zg_iload_n X dX7_source_106 rfl ?_
                      refine zg_callVi X (k_X7_leastFrom l D ad T σ hI jg q hjg (by omega)) zFr.rf gX7_source_X7_leastFrom rfl rfl rfl qv_X7_leastFrom rfl ⟨Nat.le_of_ble_eq_true rfl, Nat.le_of_ble_eq_true rfl⟩ (q0 := 0) (ci := 9) rfl rfl rfl (Nat.le_of_ble_eq_true rfl) ⟨Nat.le_of_ble_eq_true rfl, Nat.le_of_ble_eq_true rfl⟩ dX7_source_107 (fun r w1 hz9 => ?_)
                      obtain ⟨rfl, rfl⟩ := hz9
                      refine zg_aload_n X dX7_source_110 rfl ?_
                      refine zg_iload_n X dX7_source_111 rfl ?_
                      refine zg_iload_n X dX7_source_112 rfl ?_
                      refine zg_callVi X (k_X7_leastFrom l D ad T σ hI jb q hjb (by omega)) zFr.rf gX7_source_X7_leastFrom rfl rfl rfl qv_X7_leastFrom rfl ⟨Nat.le_of_ble_eq_true rfl, Nat.le_of_ble_eq_true rfl⟩ (q0 := 0) (ci := 9) rfl rfl rfl (Nat.le_of_ble_eq_true rfl) ⟨Nat.le_of_ble_eq_true rfl, Nat.le_of_ble_eq_true rfl⟩ dX7_source_113 (fun r w1 hz9 => ?_)
                      obtain ⟨rfl, rfl⟩ := hz9
                      refine zg_icmp_lt X dX7_source_116 (tgt := 151) (by decide) (fun c_116 => ?_) (fun c_116 => ?_)
                      · skip
                        refine zg_iconst X (v := 1) dX7_source_151 (by decide) ?_
                        refine zg_goto X dX7_source_152 (tgt := 156) (by decide) ?_
                        refine zg_istore X dX7_source_156 (by decide) ?_
                        refine zg_iload X dX7_source_158 rfl ?_
                        refine zg_if_eq X dX7_source_160 (tgt := 173) (by decide) (fun q => absurd q (by decide)) (fun _ => ?_)
                        refine zg_aload_n X dX7_source_163 rfl ?_
                        refine rg_M_targets X f7 l40 dX7_source_164 ?_
                        refine zg_iload X dX7_source_167 rfl ?_
                        refine rlM_targets X (by omega) dX7_source_169 ?_
                        refine zg_top (show _ = nI jg from e25) ?_
                        refine zg_goto X dX7_source_170 (tgt := 174) (by decide) ?_
                        refine zg_istore_n X dX7_source_174 (by decide) ?_
                        refine zg_iinc1 X dX7_source_175 (by decide) rfl ?_
                        refine zg_goto X dX7_source_178 (tgt := 6) (by decide) ?_
                        exact zg_lv (by exact ⟨rfl, rfl, rfl, rfl, rfl, trivial⟩) (ih6 (i + 1) (nI jg) (by omega) (by omega) (by rw [fN, ← hbst, srF, e25, ix_nI (by omega), ix_nI (j := jb) (by omega)]; exact (if_pos ⟨(show actOf σ i (nI r) from ⟨c_35, c_24⟩), c_71, c_88, Or.inr (Or.inl c_116)⟩).symm) (lt_s hq (fun h => c_59 ((nI_eq (by omega) (by omega)).mp (e21p.symm.trans h.2.1)))) (Or.inr ⟨jg, hjg, rfl⟩))
                      · skip
                        refine zg_aload_n X dX7_source_119 rfl ?_
                        refine zg_aload_n X dX7_source_120 rfl ?_
                        refine rg_M_targets X f7 l40 dX7_source_121 ?_
                        refine zg_iload X dX7_source_124 rfl ?_
                        refine rlM_targets X (by omega) dX7_source_126 ?_
                        refine zg_top (show _ = nI jg from e25) ?_
                        refine zg_iload_n X dX7_source_127 rfl ?_
                        refine zg_callVi X (k_X7_leastFrom l D ad T σ hI jg q hjg (by omega)) zFr.rf gX7_source_X7_leastFrom rfl rfl rfl qv_X7_leastFrom rfl ⟨Nat.le_of_ble_eq_true rfl, Nat.le_of_ble_eq_true rfl⟩ (q0 := 0) (ci := 9) rfl rfl rfl (Nat.le_of_ble_eq_true rfl) ⟨Nat.le_of_ble_eq_true rfl, Nat.le_of_ble_eq_true rfl⟩ dX7_source_128 (fun r w1 hz9 => ?_)
                        obtain ⟨rfl, rfl⟩ := hz9
                        refine zg_aload_n X dX7_source_131 rfl ?_
                        refine zg_iload_n X dX7_source_132 rfl ?_
                        refine zg_iload_n X dX7_source_133 rfl ?_
                        refine zg_callVi X (k_X7_leastFrom l D ad T σ hI jb q hjb (by omega)) zFr.rf gX7_source_X7_leastFrom rfl rfl rfl qv_X7_leastFrom rfl ⟨Nat.le_of_ble_eq_true rfl, Nat.le_of_ble_eq_true rfl⟩ (q0 := 0) (ci := 9) rfl rfl rfl (Nat.le_of_ble_eq_true rfl) ⟨Nat.le_of_ble_eq_true rfl, Nat.le_of_ble_eq_true rfl⟩ dX7_source_134 (fun r w1 hz9 => ?_)
                        obtain ⟨rfl, rfl⟩ := hz9
                        refine zg_icmp_ne X dX7_source_137 (tgt := 155) (by decide) (fun c_137 => ?_) (fun c_137 => ?_)
                        · skip
                          refine zg_iconst X (v := 0) dX7_source_155 (by decide) ?_
                          refine zg_istore X dX7_source_156 (by decide) ?_
                          refine zg_iload X dX7_source_158 rfl ?_
                          refine zg_if_eq X dX7_source_160 (tgt := 173) (by decide) (fun _ => ?_) (fun q => absurd q (by decide))
                          refine zg_iload_n X dX7_source_173 rfl ?_
                          refine zg_istore_n X dX7_source_174 (by decide) ?_
                          refine zg_iinc1 X dX7_source_175 (by decide) rfl ?_
                          refine zg_goto X dX7_source_178 (tgt := 6) (by decide) ?_
                          exact zg_lv (by exact ⟨rfl, rfl, rfl, rfl, rfl, trivial⟩) (ih6 (i + 1) (nI jb) (by omega) (by omega) (by rw [fN, ← hbst, srF, e25, ix_nI (by omega), ix_nI (j := jb) (by omega)]; exact (if_neg (fun h => h.2.2.2.elim c_95 (fun z => z.elim c_116 (fun z => c_137 z.1)))).symm) (lt_s hq (fun h => c_59 ((nI_eq (by omega) (by omega)).mp (e21p.symm.trans h.2.1)))) (Or.inr ⟨jb, hjb, rfl⟩))
                        · skip
                          refine zg_aload_n X dX7_source_140 rfl ?_
                          refine rg_M_targets X f7 l40 dX7_source_141 ?_
                          refine zg_iload X dX7_source_144 rfl ?_
                          refine rlM_targets X (by omega) dX7_source_146 ?_
                          refine zg_top (show _ = nI jg from e25) ?_
                          refine zg_iload_n X dX7_source_147 rfl ?_
                          refine zg_icmpn_ge X dX7_source_148 (tgt := 155) (by decide) (a := jg) (b := jb) (by omega) (by omega) (fun c_148 => ?_) (fun c_148 => ?_)
                          · skip
                            refine zg_iconst X (v := 0) dX7_source_155 (by decide) ?_
                            refine zg_istore X dX7_source_156 (by decide) ?_
                            refine zg_iload X dX7_source_158 rfl ?_
                            refine zg_if_eq X dX7_source_160 (tgt := 173) (by decide) (fun _ => ?_) (fun q => absurd q (by decide))
                            refine zg_iload_n X dX7_source_173 rfl ?_
                            refine zg_istore_n X dX7_source_174 (by decide) ?_
                            refine zg_iinc1 X dX7_source_175 (by decide) rfl ?_
                            refine zg_goto X dX7_source_178 (tgt := 6) (by decide) ?_
                            exact zg_lv (by exact ⟨rfl, rfl, rfl, rfl, rfl, trivial⟩) (ih6 (i + 1) (nI jb) (by omega) (by omega) (by rw [fN, ← hbst, srF, e25, ix_nI (by omega), ix_nI (j := jb) (by omega)]; exact (if_neg (fun h => h.2.2.2.elim c_95 (fun z => z.elim c_116 (fun z => absurd ((nI_ltI (by omega) (by omega)).mp z.2) (by omega))))).symm) (lt_s hq (fun h => c_59 ((nI_eq (by omega) (by omega)).mp (e21p.symm.trans h.2.1)))) (Or.inr ⟨jb, hjb, rfl⟩))
                          · skip
                            refine zg_iconst X (v := 1) dX7_source_151 (by decide) ?_
                            refine zg_goto X dX7_source_152 (tgt := 156) (by decide) ?_
                            refine zg_istore X dX7_source_156 (by decide) ?_
                            refine zg_iload X dX7_source_158 rfl ?_
                            refine zg_if_eq X dX7_source_160 (tgt := 173) (by decide) (fun q => absurd q (by decide)) (fun _ => ?_)
                            refine zg_aload_n X dX7_source_163 rfl ?_
                            refine rg_M_targets X f7 l40 dX7_source_164 ?_
                            refine zg_iload X dX7_source_167 rfl ?_
                            refine rlM_targets X (by omega) dX7_source_169 ?_
                            refine zg_top (show _ = nI jg from e25) ?_
                            refine zg_goto X dX7_source_170 (tgt := 174) (by decide) ?_
                            refine zg_istore_n X dX7_source_174 (by decide) ?_
                            refine zg_iinc1 X dX7_source_175 (by decide) rfl ?_
                            refine zg_goto X dX7_source_178 (tgt := 6) (by decide) ?_
                            exact zg_lv (by exact ⟨rfl, rfl, rfl, rfl, rfl, trivial⟩) (ih6 (i + 1) (nI jg) (by omega) (by omega) (by rw [fN, ← hbst, srF, e25, ix_nI (by omega), ix_nI (j := jb) (by omega)]; exact (if_pos ⟨(show actOf σ i (nI r) from ⟨c_35, c_24⟩), c_71, c_88, Or.inr (Or.inr ⟨c_137, (nI_ltI (by omega) (by omega)).mpr (by omega)⟩)⟩).symm) (lt_s hq (fun h => c_59 ((nI_eq (by omega) (by omega)).mp (e21p.symm.trans h.2.1)))) (Or.inr ⟨jg, hjg, rfl⟩))
                  · skip
                    refine zg_goto X dX7_source_91 (tgt := 175) (by decide) ?_
                    refine zg_iinc1 X dX7_source_175 (by decide) rfl ?_
                    refine zg_goto X dX7_source_178 (tgt := 6) (by decide) ?_
                    exact zg_lv (by exact ⟨rfl, rfl, rfl, rfl, rfl, trivial⟩) (ih6 (i + 1) bst (by omega) (by omega) (by rw [fN, ← hbst, srF]; exact (if_neg (fun h => h.2.2.1 (by rw [e25, ix_nI (by omega)]; exact c_88))).symm) (lt_s hq (fun h => c_59 ((nI_eq (by omega) (by omega)).mp (e21p.symm.trans h.2.1)))) hbj)
              · skip
                refine zg_iconst X (v := (-1)) dX7_source_62 (by decide) ?_
                exact zg_iret X hr dX7_source_63 (Nat.le_of_ble_eq_true rfl) (Nat.le_of_ble_eq_true rfl) (⟨(sr_p (show i < σ.1 3 by omega) (show actOf σ i (nI r) from ⟨c_35, c_24⟩) (e21p.trans (congrArg nI c_59)) (sr_22 hI (by omega) c_48)).symm, rfl⟩)
          · skip
            refine zg_goto X dX7_source_38 (tgt := 175) (by decide) ?_
            refine zg_iinc1 X dX7_source_175 (by decide) rfl ?_
            refine zg_goto X dX7_source_178 (tgt := 6) (by decide) ?_
            exact zg_lv (by exact ⟨rfl, rfl, rfl, rfl, rfl, trivial⟩) (ih6 (i + 1) bst (by omega) (by omega) (by rw [fN, ← hbst, srF]; exact (if_neg (fun h => c_35 h.1.1)).symm) (lt_s hq (fun h => c_35 h.1.1)) hbj)
  exact zg_lv (by exact ⟨rfl, rfl, rfl, rfl, rfl, trivial⟩) (LP6 (σ.1 3 + 1) 0 (-2) (by omega) (by omega) rfl (fun a ha => absurd ha (Nat.not_lt_zero a)) (Or.inl rfl))
