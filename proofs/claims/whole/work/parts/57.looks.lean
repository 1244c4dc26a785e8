/-! rows of methods, laid by a program of mine (wip/whole/walk.py) out of the bytecode and annotations -/
theorem qd_X7_looks : yX7_looks.cls ≠ "java/lang/invoke/MethodHandle" ∧ yX7_looks.cls ≠ "java/lang/invoke/VarHandle" ∧ (parseMethodDescriptor yX7_looks.desc).map (fun d => d.parameters.length) = some 0 := by decide +kernel
theorem qv_X7_looks : yX7_looks.cls = RX7 ∧ yX7_looks.cls ≠ "java/lang/invoke/MethodHandle" ∧ yX7_looks.cls ≠ "java/lang/invoke/VarHandle" ∧ (parseMethodDescriptor yX7_looks.desc).map (fun d => d.parameters.length) = some 0 := ⟨rfl, qd_X7_looks⟩
set_option maxHeartbeats 4000000 in
set_option maxRecDepth 100000 in
theorem k_X7_looks (l : Launch) (D : va_G) (ad : Nat → Nat) (T : Nat → ClassId) (σ : ZS) (hI : zI σ) (hR : zR σ) : zM l yX7_looks wsX7_looks ({ frames := 6, cells := 0, slots := 0, locals := 136 }) D (zT T) [.ref (ad 0)] (wM ad T σ) 0 0 (qV D (zT T) (fun w => ∃ t, ovl t (edgI σ) ∧ t.2.1 = σ.2.1 ∧ w = wM ad T t)) := by
  have hB0 := hI.bd
  obtain ⟨b0, b1, b2, b3, b4, b5⟩ := hI.bd
  refine zg_of (cc := cX7_looks) (maxL := 4) (ret := none) (by decide) rfl (Nat.le_of_ble_eq_true rfl) (fun p e s m below meth c A hin hr X => ?_)
  have X : zC p s m _ meth c cX7_looks 4 wsX7_looks RX7 D (zT T) A := X
  have f7 : ∀ w ∈ u_ws RX7 TX7 37, w ∈ wsX7_looks := by decide +kernel
  have l105 : Cond.fieldLink RX7 105 "RecertifyModel" "grants" "I" ∈ wsX7_looks := by decide +kernel
  have l134 : Cond.fieldLink RX7 134 "RecertifyModel" "day" "I" ∈ wsX7_looks := by decide +kernel
  have l46 : Cond.fieldLink RX7 46 "RecertifyModel" "due" "[I" ∈ wsX7_looks := by decide +kernel
  have l56 : Cond.fieldLink RX7 56 "RecertifyModel" "states" "[C" ∈ wsX7_looks := by decide +kernel
  have l82 : Cond.fieldLink RX7 82 "RecertifyModel" "row" "[I" ∈ wsX7_looks := by decide +kernel
  refine zg_iconst X (v := 0) dX7_looks_0 (by decide) ?_
  refine zg_istore_n X dX7_looks_1 (by decide) ?_
  refine zg_iconst X (v := 0) dX7_looks_2 (by decide) ?_
  refine zg_istore_n X dX7_looks_3 (by decide) ?_
  have LP4 : ∀ (fu : Nat) (g : Nat) (n : Nat) (rw1 : Nat → Int32) (L : Nat → Nat), σ.1 3 + 1 ≤ g + fu → g ≤ σ.1 3 → P1 σ rw1 L n g → zG p l e (headSpec wsX7_looks ({ frames := 6, cells := 0, slots := 0, locals := 136 })).room s m [.ref (ad 0)].toArray below meth c D 4 A 0 0 (MQ below (qV D (zT T) (fun w => ∃ t, ovl t (edgI σ) ∧ t.2.1 = σ.2.1 ∧ w = wM ad T t) A) [.ref (ad 0)].toArray s 0 0 A) (wM ad T (uA σ 27 rw1)) 4 [(0, .ref (ad 0)), (1, .int (nI n)), (2, .int (nI g))] [] := by
    intro fu
    induction fu with
    | zero => intro g n rw1 L hfu hig _; exact absurd hfu (by omega)
    | succ fu ih4 =>
      intro g n rw1 L hfu hig hP
      refine zg_iload_n X dX7_looks_4 rfl ?_
      refine zg_aload_n X dX7_looks_5 rfl ?_
      refine rg_M_grants X f7 l105 dX7_looks_6 ?_
      refine zg_icmpn_ge X dX7_looks_9 (tgt := 103) (by decide) (a := g) (b := σ.1 3) (by omega) (by omega) (fun c_9 => ?_) (fun c_9 => ?_)
      · skip
        have hP3 := hP.2.2
        have hgN : g = σ.1 3 := by omega
        refine zg_iconst X (v := 0) dX7_looks_103 (by decide) ?_
        refine zg_istore_n X dX7_looks_104 (by decide) ?_
        have LP105 : ∀ (fu : Nat) (k : Nat), n + 1 ≤ k + fu → k ≤ n → zG p l e (headSpec wsX7_looks ({ frames := 6, cells := 0, slots := 0, locals := 136 })).room s m [.ref (ad 0)].toArray below meth c D 4 A 0 0 (MQ below (qV D (zT T) (fun w => ∃ t, ovl t (edgI σ) ∧ t.2.1 = σ.2.1 ∧ w = wM ad T t) A) [.ref (ad 0)].toArray s 0 0 A) (wM ad T (fl (uA σ 27 rw1) L k)) 105 [(0, .ref (ad 0)), (1, .int (nI n)), (2, .int (nI k))] [] := by
          intro fu
          induction fu with
          | zero => intro k hfu hik ; exact absurd hfu (by omega)
          | succ fu ih105 =>
            intro k hfu hik
            refine zg_iload_n X dX7_looks_105 rfl ?_
            refine zg_iload_n X dX7_looks_106 rfl ?_
            refine zg_icmpn_ge X dX7_looks_107 (tgt := 139) (by decide) (a := k) (b := n) (by omega) (by omega) (fun c_107 => ?_) (fun c_107 => ?_)
            · skip
              exact zg_vret X hr dX7_looks_139 (Nat.le_of_ble_eq_true rfl) (Nat.le_of_ble_eq_true rfl) (⟨fl (uA σ 27 rw1) L k, (looks_end b3 hP hgN (show k = n by omega)).1, (looks_end b3 hP hgN (show k = n by omega)).2, rfl⟩)
            · skip
              have hkn : k < n := by omega
              have hLk : L k < σ.1 3 := by have := (hP.2.1.1 k hkn).1; omega
              obtain ⟨hI1, hR1⟩ := zIR_fl (σ := uA σ 27 rw1) (L := L) (n := n) hI hR (fun j hj => Nat.lt_of_lt_of_le (hP.2.1.1 j hj).1 hig) k (by omega)
              have hk3 : (fl (uA σ 27 rw1) L k).1 3 = σ.1 3 := (fl_keep (σ := uA σ 27 rw1) (L := L) k).1
              refine zg_aload_n X dX7_looks_110 rfl ?_
              refine zg_aload_n X dX7_looks_111 rfl ?_
              refine rg_M_row X f7 l82 dX7_looks_112 ?_
              refine zg_iload_n X dX7_looks_115 rfl ?_
              refine rlM_row X (by omega) dX7_looks_116 ?_
              refine zg_top (show _ = nI (L k) from (congrFun (fl_27 (σ := uA σ 27 rw1) (L := L) k) k).trans (hP.1 k hkn)) ?_
              refine zg_callVi X (k_X7_isBlockedNow l D ad T _ hI1 (L k) (by rw [hk3]; exact hLk)) zFr.rf gX7_looks_X7_isBlockedNow rfl rfl rfl qv_X7_isBlockedNow rfl ⟨Nat.le_of_ble_eq_true rfl, Nat.le_of_ble_eq_true rfl⟩ (q0 := 0) (ci := 9) rfl rfl rfl (Nat.le_of_ble_eq_true rfl) ⟨Nat.le_of_ble_eq_true rfl, Nat.le_of_ble_eq_true rfl⟩ dX7_looks_117 (fun r w1 hz9 => ?_)
              obtain ⟨rfl, rfl⟩ := hz9
              refine zg_if_neb X dX7_looks_120 (tgt := 133) (by decide) (fun c_120 => ?_) (fun c_120 => ?_)
              · skip
                refine zg_iinc1 X dX7_looks_133 (by decide) rfl ?_
                refine zg_goto X dX7_looks_136 (tgt := 105) (by decide) ?_
                refine zg_w (w' := wM ad T (fl (uA σ 27 rw1) L (k + 1))) (by rw [fl_t c_120.2]) ?_
                exact zg_lv (by exact ⟨rfl, rfl, rfl, trivial⟩) (ih105 (k + 1) (by omega) (by omega))
              · skip
                refine zg_aload_n X dX7_looks_123 rfl ?_
                refine zg_aload_n X dX7_looks_124 rfl ?_
                refine rg_M_row X f7 l82 dX7_looks_125 ?_
                refine zg_iload_n X dX7_looks_128 rfl ?_
                refine rlM_row X (by omega) dX7_looks_129 ?_
                refine zg_top (show _ = nI (L k) from (congrFun (fl_27 (σ := uA σ 27 rw1) (L := L) k) k).trans (hP.1 k hkn)) ?_
                refine zg_callVv X (k_X7_ends l D ad T _ hI1 (L k) (by rw [hk3]; exact hLk) hR1) zFr.rf gX7_looks_X7_ends rfl rfl rfl qv_X7_ends rfl ⟨Nat.le_of_ble_eq_true rfl, Nat.le_of_ble_eq_true rfl⟩ (q0 := 0) (ci := 9) rfl rfl rfl (Nat.le_of_ble_eq_true rfl) ⟨Nat.le_of_ble_eq_true rfl, Nat.le_of_ble_eq_true rfl⟩ dX7_looks_130 (fun w1 hz9 => ?_)
                obtain rfl := hz9
                refine zg_iinc1 X dX7_looks_133 (by decide) rfl ?_
                refine zg_goto X dX7_looks_136 (tgt := 105) (by decide) ?_
                refine zg_w (w' := wM ad T (fl (uA σ 27 rw1) L (k + 1))) (by rw [fl_f (fun q9 => c_120 ⟨fl_119 hP hkn, q9⟩)]) ?_
                exact zg_lv (by exact ⟨rfl, rfl, rfl, trivial⟩) (ih105 (k + 1) (by omega) (by omega))
        exact zg_lv (by exact ⟨rfl, rfl, rfl, trivial⟩) (LP105 (n + 1) 0 (by omega) (by omega))
      · skip
        have hP3 := hP.2.2
        refine zg_aload_n X dX7_looks_12 rfl ?_
        refine rg_M_states X f7 l56 dX7_looks_13 ?_
        refine zg_iload_n X dX7_looks_16 rfl ?_
        refine rlM_states X (by omega) dX7_looks_17 ?_
        refine zg_bipush X (v := 119) dX7_looks_18 (by decide) ?_
        refine zg_icmp_ne X dX7_looks_20 (tgt := 97) (by decide) (fun c_20 => ?_) (fun c_20 => ?_)
        · skip
          refine zg_iinc1 X dX7_looks_97 (by decide) rfl ?_
          refine zg_goto X dX7_looks_100 (tgt := 4) (by decide) ?_
          skip
          exact zg_lv (by exact ⟨rfl, rfl, rfl, trivial⟩) (ih4 (g + 1) n rw1 L (by omega) (by omega) (P1_skip hP (fun q9 => c_20 q9.1)))
        · skip
          refine zg_aload_n X dX7_looks_23 rfl ?_
          refine rg_M_due X f7 l46 dX7_looks_24 ?_
          refine zg_iload_n X dX7_looks_27 rfl ?_
          refine rlM_due X (by omega) dX7_looks_28 ?_
          refine zg_aload_n X dX7_looks_29 rfl ?_
          refine rg_M_day X f7 l134 dX7_looks_30 ?_
          refine zg_icmp_le X dX7_looks_33 (tgt := 39) (by decide) (fun c_33 => ?_) (fun c_33 => ?_)
          · skip
            refine zg_iload_n X dX7_looks_39 rfl ?_
            refine zg_istore_n X dX7_looks_40 (by decide) ?_
            have LP41 : ∀ (fu : Nat) (q : Nat) (rw2 : Nat → Int32), n + 1 ≤ q + fu → q ≤ n → P2 σ rw2 L n g (n - q) → zG p l e (headSpec wsX7_looks ({ frames := 6, cells := 0, slots := 0, locals := 136 })).room s m [.ref (ad 0)].toArray below meth c D 4 A 0 0 (MQ below (qV D (zT T) (fun w => ∃ t, ovl t (edgI σ) ∧ t.2.1 = σ.2.1 ∧ w = wM ad T t) A) [.ref (ad 0)].toArray s 0 0 A) (wM ad T (uA σ 27 rw2)) 41 [(0, .ref (ad 0)), (1, .int (nI n)), (2, .int (nI g)), (3, .int (nI (n - q)))] [] := by
              intro fu
              induction fu with
              | zero => intro q rw2 hfu hiq _; exact absurd hfu (by omega)
              | succ fu ih41 =>
                intro q rw2 hfu hiq hQ
                refine zg_iload_n X dX7_looks_41 rfl ?_
                refine zg_ifn_le X dX7_looks_42 (tgt := 87) (by decide) (by omega) (fun c_42 => ?_) (fun c_42 => ?_)
                · skip
                  refine zg_aload_n X dX7_looks_87 rfl ?_
                  refine rg_M_row X f7 l82 dX7_looks_88 ?_
                  refine zg_iload_n X dX7_looks_91 rfl ?_
                  refine zg_iload_n X dX7_looks_92 rfl ?_
                  refine rsM_row X (by omega) dX7_looks_93 ?_
                  refine zg_iinc1 X dX7_looks_94 (by decide) rfl ?_
                  refine zg_iinc1 X dX7_looks_97 (by decide) rfl ?_
                  refine zg_goto X dX7_looks_100 (tgt := 4) (by decide) ?_
                  refine zg_w (w' := wM ad T (uA σ 27 (upd rw2 (n - q) (nI g)))) rfl ?_
                  exact zg_lv (by exact ⟨rfl, rfl, rfl, trivial⟩) (ih4 (g + 1) (n + 1) (upd rw2 (n - q) (nI g)) (insL L g (n - q)) (by omega) (by omega) (P12 hP hQ ⟨c_20, c_33⟩ (Or.inl (by omega))))
                · skip
                  refine zg_aload_n X dX7_looks_45 rfl ?_
                  refine rg_M_due X f7 l46 dX7_looks_46 ?_
                  refine zg_iload_n X dX7_looks_49 rfl ?_
                  refine rlM_due X (by omega) dX7_looks_50 ?_
                  refine zg_aload_n X dX7_looks_51 rfl ?_
                  refine rg_M_due X f7 l46 dX7_looks_52 ?_
                  refine zg_aload_n X dX7_looks_55 rfl ?_
                  refine rg_M_row X f7 l82 dX7_looks_56 ?_
                  refine zg_iload_n X dX7_looks_59 rfl ?_
                  refine zg_iconst X (v := 1) dX7_looks_60 (by decide) ?_
                  refine zg_isub X dX7_looks_61 ?_
                  refine zg_top (zsub1 (by omega)) ?_
                  refine rlM_row X (by omega) dX7_looks_62 ?_
                  refine zg_top (show _ = nI (L (n - q - 1)) from hQ.2.1 (n - q - 1) (by omega)) ?_
                  refine rlM_due X (show L (n - q - 1) < 24 by have := (hP.2.1.1 (n - q - 1) (by omega)).1; omega) dX7_looks_63 ?_
                  refine zg_icmp_ge X dX7_looks_64 (tgt := 87) (by decide) (fun c_64 => ?_) (fun c_64 => ?_)
                  · skip
                    refine zg_aload_n X dX7_looks_87 rfl ?_
                    refine rg_M_row X f7 l82 dX7_looks_88 ?_
                    refine zg_iload_n X dX7_looks_91 rfl ?_
                    refine zg_iload_n X dX7_looks_92 rfl ?_
                    refine rsM_row X (by omega) dX7_looks_93 ?_
                    refine zg_iinc1 X dX7_looks_94 (by decide) rfl ?_
                    refine zg_iinc1 X dX7_looks_97 (by decide) rfl ?_
                    refine zg_goto X dX7_looks_100 (tgt := 4) (by decide) ?_
                    refine zg_w (w' := wM ad T (uA σ 27 (upd rw2 (n - q) (nI g)))) rfl ?_
                    exact zg_lv (by exact ⟨rfl, rfl, rfl, trivial⟩) (ih4 (g + 1) (n + 1) (upd rw2 (n - q) (nI g)) (insL L g (n - q)) (by omega) (by omega) (P12 hP hQ ⟨c_20, c_33⟩ (Or.inr (fun q9 => (zi_lt.mp (Int32.lt_iff_toInt_lt.mpr q9)) c_64))))
                  · skip
                    refine zg_aload_n X dX7_looks_67 rfl ?_
                    refine rg_M_row X f7 l82 dX7_looks_68 ?_
                    refine zg_iload_n X dX7_looks_71 rfl ?_
                    refine zg_aload_n X dX7_looks_72 rfl ?_
                    refine rg_M_row X f7 l82 dX7_looks_73 ?_
                    refine zg_iload_n X dX7_looks_76 rfl ?_
                    refine zg_iconst X (v := 1) dX7_looks_77 (by decide) ?_
                    refine zg_isub X dX7_looks_78 ?_
                    refine zg_top (zsub1 (by omega)) ?_
                    refine rlM_row X (by omega) dX7_looks_79 ?_
                    refine zg_top (show _ = nI (L (n - q - 1)) from hQ.2.1 (n - q - 1) (by omega)) ?_
                    refine rsM_row X (by omega) dX7_looks_80 ?_
                    refine zg_iincm X dX7_looks_81 (by decide) rfl (by omega) ?_
                    refine zg_goto X dX7_looks_84 (tgt := 41) (by decide) ?_
                    refine zg_w (w' := wM ad T (uA σ 27 (upd rw2 (n - q) (nI (L (n - q - 1)))))) rfl ?_
                    exact zg_lv (by exact ⟨rfl, rfl, rfl, rfl, trivial⟩) (ih41 (q + 1) (upd rw2 (n - q) (nI (L (n - q - 1)))) (by omega) (by omega) (P2_s hQ (by omega) (Int32.lt_iff_toInt_lt.mp (zi_lt.mpr c_64))))
            exact zg_lv (by exact ⟨rfl, rfl, rfl, rfl, trivial⟩) (LP41 (n + 1) 0 rw1 (by omega) (by omega) (P2_0 hP))
          · skip
            refine zg_goto X dX7_looks_36 (tgt := 97) (by decide) ?_
            refine zg_iinc1 X dX7_looks_97 (by decide) rfl ?_
            refine zg_goto X dX7_looks_100 (tgt := 4) (by decide) ?_
            skip
            exact zg_lv (by exact ⟨rfl, rfl, rfl, trivial⟩) (ih4 (g + 1) n rw1 L (by omega) (by omega) (P1_skip hP (fun q9 => c_33 q9.2)))
  refine zg_w (w' := wM ad T (uA σ 27 (σ.2.2 27))) rfl ?_
  exact zg_lv (by exact ⟨rfl, rfl, rfl, trivial⟩) (LP4 (σ.1 3 + 1) 0 0 (σ.2.2 27) (fun _ => 0) (by omega) (by omega) P1_0)
