/-! rows of methods, laid by a program of mine (wip/whole/walk.py) out of the bytecode and annotations -/
theorem qd_X7_leastFrom : yX7_leastFrom.cls ≠ "java/lang/invoke/MethodHandle" ∧ yX7_leastFrom.cls ≠ "java/lang/invoke/VarHandle" ∧ (parseMethodDescriptor yX7_leastFrom.desc).map (fun d => d.parameters.length) = some 2 := by decide +kernel
theorem qv_X7_leastFrom : yX7_leastFrom.cls = RX7 ∧ yX7_leastFrom.cls ≠ "java/lang/invoke/MethodHandle" ∧ yX7_leastFrom.cls ≠ "java/lang/invoke/VarHandle" ∧ (parseMethodDescriptor yX7_leastFrom.desc).map (fun d => d.parameters.length) = some 2 := ⟨rfl, qd_X7_leastFrom⟩
def mnI (x y : Int32) : Int32 := if y < x then y else x
/-- the least number of groups on a path from g to the person, 99 if there is none, looked for d groups deep -/
def lsX (σ : ZS) (q : Nat) : Nat → Nat → Int32
  | 0, _ => 99
  | d + 1, g => if hB (σ.2.2 4 g) q then 1 else mnI (fN (fun i acc => if hB (σ.2.2 5 g) i then mnI acc (lsX σ q d i + 1) else acc) 99 (σ.1 1)) 99
def lsF (σ : ZS) (q d g : Nat) (i : Nat) (acc : Int32) : Int32 := if hB (σ.2.2 5 g) i then mnI acc (lsX σ q d i + 1) else acc
set_option maxHeartbeats 4000000 in
set_option maxRecDepth 100000 in
theorem k_X7_leastFromS (l : Launch) (D : va_G) (ad : Nat → Nat) (T : Nat → ClassId) (σ : ZS) (hI : zI σ) (q d : Nat) (hq0 : q < 32) (ihd : ∀ g : Nat, g < σ.1 1 → rkG σ g ≤ d → zM l yX7_leastFrom wsX7_leastFrom ({ frames := d + 3, cells := 0, slots := 0, locals := 60 * d + 100 }) D (zT T) [.ref (ad 0), .int (nI g), .int (nI q)] (wM ad T σ) 0 0 (qI D (zT T) (fun v0 w => v0 = lsX σ q d g ∧ w = wM ad T (σ)))) (g : Nat) (hg : g < σ.1 1) (hr9 : rkG σ g ≤ d + 1) : zM l yX7_leastFrom wsX7_leastFrom ({ frames := d + 1 + 3, cells := 0, slots := 0, locals := 60 * (d + 1) + 100 }) D (zT T) [.ref (ad 0), .int (nI g), .int (nI q)] (wM ad T σ) 0 0 (qI D (zT T) (fun v0 w => v0 = lsX σ q (d + 1) g ∧ w = wM ad T (σ))) := by
  have hB0 := hI.bd
  obtain ⟨b0, b1, b2, b3, b4, b5⟩ := hI.bd
  refine zg_of (cc := cX7_leastFrom) (maxL := 5) (ret := (some .int)) (by decide) rfl (Nat.le_of_ble_eq_true rfl) (fun p e s m below meth c A hin hr X => ?_)
  have X : zC p s m _ meth c cX7_leastFrom 5 wsX7_leastFrom RX7 D (zT T) A := X
  have f7 : ∀ w ∈ u_ws RX7 TX7 37, w ∈ wsX7_leastFrom := by decide +kernel
  have l233 : Cond.methodLink RX7 233 Lib.Math.min.name ∈ wsX7_leastFrom := by decide +kernel
  have lminc : Cond.code Lib.Math.min.name Lib.Math.min.code 2 (some .int) ∈ wsX7_leastFrom := by decide +kernel
  have lmini : Cond.initialized "java/lang/Math" ∈ wsX7_leastFrom := by decide +kernel
  have lmins : Cond.static Lib.Math.min.name ∈ wsX7_leastFrom := by decide +kernel
  have l22 : Cond.fieldLink RX7 22 "RecertifyModel" "direct" "[I" ∈ wsX7_leastFrom := by decide +kernel
  have l25 : Cond.fieldLink RX7 25 "RecertifyModel" "nested" "[I" ∈ wsX7_leastFrom := by decide +kernel
  have l99 : Cond.fieldLink RX7 99 "RecertifyModel" "groups" "I" ∈ wsX7_leastFrom := by decide +kernel
  refine zg_aload_n X dX7_leastFrom_0 rfl ?_
  refine rg_M_direct X f7 l22 dX7_leastFrom_1 ?_
  refine zg_iload_n X dX7_leastFrom_4 rfl ?_
  refine rlM_direct X (by omega) dX7_leastFrom_5 ?_
  refine zg_iload_n X dX7_leastFrom_6 rfl ?_
  refine zg_callSi X (k_X7_has l D ad T σ _ q hq0) zFr.rf gX7_leastFrom_X7_has rfl rfl rfl qd_X7_has rfl ⟨by change 0 + 1 ≤ d + 1 + 3; omega, by change 8 + (2 + 11) + 0 ≤ 60 * (d + 1) + 100; omega⟩ rfl (Nat.le_of_ble_eq_true rfl) ⟨Nat.le_of_ble_eq_true rfl, Nat.le_of_ble_eq_true rfl⟩ dX7_leastFrom_7 (fun r w1 hz9 => ?_)
  obtain ⟨rfl, rfl⟩ := hz9
  refine zg_if_eqb X dX7_leastFrom_10 (tgt := 15) (by decide) (fun c_10 => ?_) (fun c_10 => ?_)
  · skip
    refine zg_bipush X (v := 99) dX7_leastFrom_15 (by decide) ?_
    refine zg_istore_n X dX7_leastFrom_17 (by decide) ?_
    refine zg_iconst X (v := 0) dX7_leastFrom_18 (by decide) ?_
    refine zg_istore X dX7_leastFrom_19 (by decide) ?_
    have LP21 : ∀ (fu : Nat) (i : Nat) (acc : Int32), σ.1 1 + 1 ≤ i + fu → i ≤ σ.1 1 → acc = fN (lsF σ q d g) 99 i → zG p l e (headSpec wsX7_leastFrom ({ frames := d + 1 + 3, cells := 0, slots := 0, locals := 60 * (d + 1) + 100 })).room s m [.ref (ad 0), .int (nI g), .int (nI q)].toArray below meth c D 5 A 0 0 (MQ below (qI D (zT T) (fun v0 w => v0 = lsX σ q (d + 1) g ∧ w = wM ad T (σ)) A) [.ref (ad 0), .int (nI g), .int (nI q)].toArray s 0 0 A) (wM ad T σ) 21 [(0, .ref (ad 0)), (1, .int (nI g)), (2, .int (nI q)), (3, .int acc), (4, .int (nI i))] [] := by
      intro fu
      induction fu with
      | zero => intro i acc hfu hii _; exact absurd hfu (by omega)
      | succ fu ih21 =>
        intro i acc hfu hii hacc
        refine zg_iload X dX7_leastFrom_21 rfl ?_
        refine zg_aload_n X dX7_leastFrom_23 rfl ?_
        refine rg_M_groups X f7 l99 dX7_leastFrom_24 ?_
        refine zg_icmpn_ge X dX7_leastFrom_27 (tgt := 68) (by decide) (a := i) (b := σ.1 1) (by omega) (by omega) (fun c_27 => ?_) (fun c_27 => ?_)
        · skip
          refine zg_iload_n X dX7_leastFrom_68 rfl ?_
          refine zg_bipush X (v := 99) dX7_leastFrom_69 (by decide) ?_
          refine zg_mmin X l233 lmins lmini lminc (by change 1 ≤ d + 1 + 3; omega) (by change 0 + 13 ≤ 60 * (d + 1) + 100; omega) (Nat.le_of_ble_eq_true rfl) (Nat.le_of_ble_eq_true rfl) dX7_leastFrom_71 ?_
          exact zg_iret X hr dX7_leastFrom_74 (Nat.le_of_ble_eq_true rfl) (Nat.le_of_ble_eq_true rfl) (⟨by rw [lsX, if_neg c_10, hacc, show i = σ.1 1 by omega] <;> rfl, rfl⟩)
        · skip
          refine zg_aload_n X dX7_leastFrom_30 rfl ?_
          refine rg_M_nested X f7 l25 dX7_leastFrom_31 ?_
          refine zg_iload_n X dX7_leastFrom_34 rfl ?_
          refine rlM_nested X (by omega) dX7_leastFrom_35 ?_
          refine zg_iload X dX7_leastFrom_36 rfl ?_
          refine zg_callSi X (k_X7_has l D ad T σ _ i (by omega)) zFr.rf gX7_leastFrom_X7_has rfl rfl rfl qd_X7_has rfl ⟨by change 0 + 1 ≤ d + 1 + 3; omega, by change 8 + (2 + 11) + 0 ≤ 60 * (d + 1) + 100; omega⟩ rfl (Nat.le_of_ble_eq_true rfl) ⟨Nat.le_of_ble_eq_true rfl, Nat.le_of_ble_eq_true rfl⟩ dX7_leastFrom_38 (fun r w1 hz9 => ?_)
          obtain ⟨rfl, rfl⟩ := hz9
          refine zg_if_eqb X dX7_leastFrom_41 (tgt := 60) (by decide) (fun c_41 => ?_) (fun c_41 => ?_)
          · skip
            refine zg_iload_n X dX7_leastFrom_60 rfl ?_
            refine zg_istore_n X dX7_leastFrom_61 (by decide) ?_
            refine zg_iinc1 X dX7_leastFrom_62 (by decide) rfl ?_
            refine zg_goto X dX7_leastFrom_65 (tgt := 21) (by decide) ?_
            exact zg_lv (by exact ⟨rfl, rfl, rfl, rfl, rfl, trivial⟩) (ih21 (i + 1) _ (by omega) (by omega) (by rw [fN, ← hacc, lsF, if_neg c_41]))
          · skip
            refine zg_iload_n X dX7_leastFrom_44 rfl ?_
            refine zg_aload_n X dX7_leastFrom_45 rfl ?_
            refine zg_iload X dX7_leastFrom_46 rfl ?_
            refine zg_iload_n X dX7_leastFrom_48 rfl ?_
            refine zg_callVi X (ihd i (by omega) (by have := rk_lt hI hg (show i < σ.1 1 by omega) c_41; omega)) zFr.rf gX7_leastFrom_X7_leastFrom rfl rfl rfl qv_X7_leastFrom rfl ⟨by change d + 3 + 1 ≤ d + 1 + 3; omega, by change 8 + (5 + 11) + (60 * d + 100) ≤ 60 * (d + 1) + 100; omega⟩ (q0 := 0) (ci := 9) rfl rfl rfl (Nat.le_of_ble_eq_true rfl) ⟨Nat.le_of_ble_eq_true rfl, Nat.le_of_ble_eq_true rfl⟩ dX7_leastFrom_49 (fun r w1 hz9 => ?_)
            obtain ⟨rfl, rfl⟩ := hz9
            refine zg_iconst X (v := 1) dX7_leastFrom_52 (by decide) ?_
            refine zg_iadd X dX7_leastFrom_53 ?_
            refine zg_mmin X l233 lmins lmini lminc (by change 1 ≤ d + 1 + 3; omega) (by change 0 + 13 ≤ 60 * (d + 1) + 100; omega) (Nat.le_of_ble_eq_true rfl) (Nat.le_of_ble_eq_true rfl) dX7_leastFrom_54 ?_
            refine zg_goto X dX7_leastFrom_57 (tgt := 61) (by decide) ?_
            refine zg_istore_n X dX7_leastFrom_61 (by decide) ?_
            refine zg_iinc1 X dX7_leastFrom_62 (by decide) rfl ?_
            refine zg_goto X dX7_leastFrom_65 (tgt := 21) (by decide) ?_
            exact zg_lv (by exact ⟨rfl, rfl, rfl, rfl, rfl, trivial⟩) (ih21 (i + 1) _ (by omega) (by omega) (by rw [fN, ← hacc, lsF, if_pos c_41, mnI]))
    exact zg_lv (by exact ⟨rfl, rfl, rfl, rfl, rfl, trivial⟩) (LP21 (σ.1 1 + 1) 0 _ (by omega) (by omega) rfl)
  · skip
    refine zg_iconst X (v := 1) dX7_leastFrom_13 (by decide) ?_
    exact zg_iret X hr dX7_leastFrom_14 (Nat.le_of_ble_eq_true rfl) (Nat.le_of_ble_eq_true rfl) (⟨by rw [lsX, if_pos c_10] <;> rfl, rfl⟩)


theorem k_X7_leastFromD (l : Launch) (D : va_G) (ad : Nat → Nat) (T : Nat → ClassId) (σ : ZS) (hI : zI σ) (q : Nat) (hq0 : q < 32) : ∀ (d : Nat) (g : Nat), g < σ.1 1 → rkG σ g ≤ d → zM l yX7_leastFrom wsX7_leastFrom ({ frames := d + 3, cells := 0, slots := 0, locals := 60 * d + 100 }) D (zT T) [.ref (ad 0), .int (nI g), .int (nI q)] (wM ad T σ) 0 0 (qI D (zT T) (fun v0 w => v0 = lsX σ q d g ∧ w = wM ad T (σ))) := by
  intro d
  induction d with
  | zero => exact fun g hg hr => absurd (rk_pos hI hg) (by omega)
  | succ d ih => exact fun g hg hr => k_X7_leastFromS l D ad T σ hI q d hq0 ih g hg hr
theorem k_X7_leastFrom (l : Launch) (D : va_G) (ad : Nat → Nat) (T : Nat → ClassId) (σ : ZS) (hI : zI σ) (g q : Nat) (hg : g < σ.1 1) (hq0 : q < 32) : zM l yX7_leastFrom wsX7_leastFrom ({ frames := 11, cells := 0, slots := 0, locals := 580 }) D (zT T) [.ref (ad 0), .int (nI g), .int (nI q)] (wM ad T σ) 0 0 (qI D (zT T) (fun v0 w => v0 = lsX σ q 8 g ∧ w = wM ad T (σ))) := k_X7_leastFromD l D ad T σ hI q hq0 8 g hg (rk_le hI)
