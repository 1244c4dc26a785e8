/-! rows of methods, laid by a program of mine (wip/whole/walk.py) out of the bytecode and annotations -/
theorem qd_X7_bitsOf : yX7_bitsOf.cls ≠ "java/lang/invoke/MethodHandle" ∧ yX7_bitsOf.cls ≠ "java/lang/invoke/VarHandle" ∧ (parseMethodDescriptor yX7_bitsOf.desc).map (fun d => d.parameters.length) = some 1 := by decide +kernel
theorem qv_X7_bitsOf : yX7_bitsOf.cls = RX7 ∧ yX7_bitsOf.cls ≠ "java/lang/invoke/MethodHandle" ∧ yX7_bitsOf.cls ≠ "java/lang/invoke/VarHandle" ∧ (parseMethodDescriptor yX7_bitsOf.desc).map (fun d => d.parameters.length) = some 1 := ⟨rfl, qd_X7_bitsOf⟩
theorem qd_X7_fails : yX7_fails.cls ≠ "java/lang/invoke/MethodHandle" ∧ yX7_fails.cls ≠ "java/lang/invoke/VarHandle" ∧ (parseMethodDescriptor yX7_fails.desc).map (fun d => d.parameters.length) = some 1 := by decide +kernel
theorem qv_X7_fails : yX7_fails.cls = RX7 ∧ yX7_fails.cls ≠ "java/lang/invoke/MethodHandle" ∧ yX7_fails.cls ≠ "java/lang/invoke/VarHandle" ∧ (parseMethodDescriptor yX7_fails.desc).map (fun d => d.parameters.length) = some 1 := ⟨rfl, qd_X7_fails⟩
theorem qd_X7_has : yX7_has.cls ≠ "java/lang/invoke/MethodHandle" ∧ yX7_has.cls ≠ "java/lang/invoke/VarHandle" ∧ (parseMethodDescriptor yX7_has.desc).map (fun d => d.parameters.length) = some 2 := by decide +kernel
theorem qv_X7_has : yX7_has.cls = RX7 ∧ yX7_has.cls ≠ "java/lang/invoke/MethodHandle" ∧ yX7_has.cls ≠ "java/lang/invoke/VarHandle" ∧ (parseMethodDescriptor yX7_has.desc).map (fun d => d.parameters.length) = some 2 := ⟨rfl, qd_X7_has⟩
theorem qd_X7_holdersBut : yX7_holdersBut.cls ≠ "java/lang/invoke/MethodHandle" ∧ yX7_holdersBut.cls ≠ "java/lang/invoke/VarHandle" ∧ (parseMethodDescriptor yX7_holdersBut.desc).map (fun d => d.parameters.length) = some 2 := by decide +kernel
theorem qv_X7_holdersBut : yX7_holdersBut.cls = RX7 ∧ yX7_holdersBut.cls ≠ "java/lang/invoke/MethodHandle" ∧ yX7_holdersBut.cls ≠ "java/lang/invoke/VarHandle" ∧ (parseMethodDescriptor yX7_holdersBut.desc).map (fun d => d.parameters.length) = some 2 := ⟨rfl, qd_X7_holdersBut⟩
theorem qd_X7_inside : yX7_inside.cls ≠ "java/lang/invoke/MethodHandle" ∧ yX7_inside.cls ≠ "java/lang/invoke/VarHandle" ∧ (parseMethodDescriptor yX7_inside.desc).map (fun d => d.parameters.length) = some 1 := by decide +kernel
theorem qv_X7_inside : yX7_inside.cls = RX7 ∧ yX7_inside.cls ≠ "java/lang/invoke/MethodHandle" ∧ yX7_inside.cls ≠ "java/lang/invoke/VarHandle" ∧ (parseMethodDescriptor yX7_inside.desc).map (fun d => d.parameters.length) = some 1 := ⟨rfl, qd_X7_inside⟩
theorem qd_X7_isBetween : yX7_isBetween.cls ≠ "java/lang/invoke/MethodHandle" ∧ yX7_isBetween.cls ≠ "java/lang/invoke/VarHandle" ∧ (parseMethodDescriptor yX7_isBetween.desc).map (fun d => d.parameters.length) = some 3 := by decide +kernel
theorem qv_X7_isBetween : yX7_isBetween.cls = RX7 ∧ yX7_isBetween.cls ≠ "java/lang/invoke/MethodHandle" ∧ yX7_isBetween.cls ≠ "java/lang/invoke/VarHandle" ∧ (parseMethodDescriptor yX7_isBetween.desc).map (fun d => d.parameters.length) = some 3 := ⟨rfl, qd_X7_isBetween⟩
theorem qd_X7_isEntry : yX7_isEntry.cls ≠ "java/lang/invoke/MethodHandle" ∧ yX7_isEntry.cls ≠ "java/lang/invoke/VarHandle" ∧ (parseMethodDescriptor yX7_isEntry.desc).map (fun d => d.parameters.length) = some 1 := by decide +kernel
theorem qv_X7_isEntry : yX7_isEntry.cls = RX7 ∧ yX7_isEntry.cls ≠ "java/lang/invoke/MethodHandle" ∧ yX7_isEntry.cls ≠ "java/lang/invoke/VarHandle" ∧ (parseMethodDescriptor yX7_isEntry.desc).map (fun d => d.parameters.length) = some 1 := ⟨rfl, qd_X7_isEntry⟩
theorem qd_X7_isGrant : yX7_isGrant.cls ≠ "java/lang/invoke/MethodHandle" ∧ yX7_isGrant.cls ≠ "java/lang/invoke/VarHandle" ∧ (parseMethodDescriptor yX7_isGrant.desc).map (fun d => d.parameters.length) = some 1 := by decide +kernel
theorem qv_X7_isGrant : yX7_isGrant.cls = RX7 ∧ yX7_isGrant.cls ≠ "java/lang/invoke/MethodHandle" ∧ yX7_isGrant.cls ≠ "java/lang/invoke/VarHandle" ∧ (parseMethodDescriptor yX7_isGrant.desc).map (fun d => d.parameters.length) = some 1 := ⟨rfl, qd_X7_isGrant⟩
theorem qd_X7_isGroup : yX7_isGroup.cls ≠ "java/lang/invoke/MethodHandle" ∧ yX7_isGroup.cls ≠ "java/lang/invoke/VarHandle" ∧ (parseMethodDescriptor yX7_isGroup.desc).map (fun d => d.parameters.length) = some 1 := by decide +kernel
theorem qv_X7_isGroup : yX7_isGroup.cls = RX7 ∧ yX7_isGroup.cls ≠ "java/lang/invoke/MethodHandle" ∧ yX7_isGroup.cls ≠ "java/lang/invoke/VarHandle" ∧ (parseMethodDescriptor yX7_isGroup.desc).map (fun d => d.parameters.length) = some 1 := ⟨rfl, qd_X7_isGroup⟩
theorem qd_X7_isHolding : yX7_isHolding.cls ≠ "java/lang/invoke/MethodHandle" ∧ yX7_isHolding.cls ≠ "java/lang/invoke/VarHandle" ∧ (parseMethodDescriptor yX7_isHolding.desc).map (fun d => d.parameters.length) = some 2 := by decide +kernel
theorem qv_X7_isHolding : yX7_isHolding.cls = RX7 ∧ yX7_isHolding.cls ≠ "java/lang/invoke/MethodHandle" ∧ yX7_isHolding.cls ≠ "java/lang/invoke/VarHandle" ∧ (parseMethodDescriptor yX7_isHolding.desc).map (fun d => d.parameters.length) = some 2 := ⟨rfl, qd_X7_isHolding⟩
theorem qd_X7_isItem : yX7_isItem.cls ≠ "java/lang/invoke/MethodHandle" ∧ yX7_isItem.cls ≠ "java/lang/invoke/VarHandle" ∧ (parseMethodDescriptor yX7_isItem.desc).map (fun d => d.parameters.length) = some 1 := by decide +kernel
theorem qv_X7_isItem : yX7_isItem.cls = RX7 ∧ yX7_isItem.cls ≠ "java/lang/invoke/MethodHandle" ∧ yX7_isItem.cls ≠ "java/lang/invoke/VarHandle" ∧ (parseMethodDescriptor yX7_isItem.desc).map (fun d => d.parameters.length) = some 1 := ⟨rfl, qd_X7_isItem⟩
theorem qd_X7_isNone : yX7_isNone.cls ≠ "java/lang/invoke/MethodHandle" ∧ yX7_isNone.cls ≠ "java/lang/invoke/VarHandle" ∧ (parseMethodDescriptor yX7_isNone.desc).map (fun d => d.parameters.length) = some 2 := by decide +kernel
theorem qv_X7_isNone : yX7_isNone.cls = RX7 ∧ yX7_isNone.cls ≠ "java/lang/invoke/MethodHandle" ∧ yX7_isNone.cls ≠ "java/lang/invoke/VarHandle" ∧ (parseMethodDescriptor yX7_isNone.desc).map (fun d => d.parameters.length) = some 2 := ⟨rfl, qd_X7_isNone⟩
theorem qd_X7_isNotThere : yX7_isNotThere.cls ≠ "java/lang/invoke/MethodHandle" ∧ yX7_isNotThere.cls ≠ "java/lang/invoke/VarHandle" ∧ (parseMethodDescriptor yX7_isNotThere.desc).map (fun d => d.parameters.length) = some 2 := by decide +kernel
theorem qv_X7_isNotThere : yX7_isNotThere.cls = RX7 ∧ yX7_isNotThere.cls ≠ "java/lang/invoke/MethodHandle" ∧ yX7_isNotThere.cls ≠ "java/lang/invoke/VarHandle" ∧ (parseMethodDescriptor yX7_isNotThere.desc).map (fun d => d.parameters.length) = some 2 := ⟨rfl, qd_X7_isNotThere⟩
theorem qd_X7_isPerson : yX7_isPerson.cls ≠ "java/lang/invoke/MethodHandle" ∧ yX7_isPerson.cls ≠ "java/lang/invoke/VarHandle" ∧ (parseMethodDescriptor yX7_isPerson.desc).map (fun d => d.parameters.length) = some 1 := by decide +kernel
theorem qv_X7_isPerson : yX7_isPerson.cls = RX7 ∧ yX7_isPerson.cls ≠ "java/lang/invoke/MethodHandle" ∧ yX7_isPerson.cls ≠ "java/lang/invoke/VarHandle" ∧ (parseMethodDescriptor yX7_isPerson.desc).map (fun d => d.parameters.length) = some 1 := ⟨rfl, qd_X7_isPerson⟩
theorem qd_X7_isRight : yX7_isRight.cls ≠ "java/lang/invoke/MethodHandle" ∧ yX7_isRight.cls ≠ "java/lang/invoke/VarHandle" ∧ (parseMethodDescriptor yX7_isRight.desc).map (fun d => d.parameters.length) = some 1 := by decide +kernel
theorem qv_X7_isRight : yX7_isRight.cls = RX7 ∧ yX7_isRight.cls ≠ "java/lang/invoke/MethodHandle" ∧ yX7_isRight.cls ≠ "java/lang/invoke/VarHandle" ∧ (parseMethodDescriptor yX7_isRight.desc).map (fun d => d.parameters.length) = some 1 := ⟨rfl, qd_X7_isRight⟩
theorem qd_X7_isWrong : yX7_isWrong.cls ≠ "java/lang/invoke/MethodHandle" ∧ yX7_isWrong.cls ≠ "java/lang/invoke/VarHandle" ∧ (parseMethodDescriptor yX7_isWrong.desc).map (fun d => d.parameters.length) = some 1 := by decide +kernel
theorem qv_X7_isWrong : yX7_isWrong.cls = RX7 ∧ yX7_isWrong.cls ≠ "java/lang/invoke/MethodHandle" ∧ yX7_isWrong.cls ≠ "java/lang/invoke/VarHandle" ∧ (parseMethodDescriptor yX7_isWrong.desc).map (fun d => d.parameters.length) = some 1 := ⟨rfl, qd_X7_isWrong⟩
theorem qd_X7_membersOf : yX7_membersOf.cls ≠ "java/lang/invoke/MethodHandle" ∧ yX7_membersOf.cls ≠ "java/lang/invoke/VarHandle" ∧ (parseMethodDescriptor yX7_membersOf.desc).map (fun d => d.parameters.length) = some 1 := by decide +kernel
theorem qv_X7_membersOf : yX7_membersOf.cls = RX7 ∧ yX7_membersOf.cls ≠ "java/lang/invoke/MethodHandle" ∧ yX7_membersOf.cls ≠ "java/lang/invoke/VarHandle" ∧ (parseMethodDescriptor yX7_membersOf.desc).map (fun d => d.parameters.length) = some 1 := ⟨rfl, qd_X7_membersOf⟩
theorem qd_X7_reachedBy : yX7_reachedBy.cls ≠ "java/lang/invoke/MethodHandle" ∧ yX7_reachedBy.cls ≠ "java/lang/invoke/VarHandle" ∧ (parseMethodDescriptor yX7_reachedBy.desc).map (fun d => d.parameters.length) = some 1 := by decide +kernel
theorem qv_X7_reachedBy : yX7_reachedBy.cls = RX7 ∧ yX7_reachedBy.cls ≠ "java/lang/invoke/MethodHandle" ∧ yX7_reachedBy.cls ≠ "java/lang/invoke/VarHandle" ∧ (parseMethodDescriptor yX7_reachedBy.desc).map (fun d => d.parameters.length) = some 1 := ⟨rfl, qd_X7_reachedBy⟩
theorem qd_X7_riskBy : yX7_riskBy.cls ≠ "java/lang/invoke/MethodHandle" ∧ yX7_riskBy.cls ≠ "java/lang/invoke/VarHandle" ∧ (parseMethodDescriptor yX7_riskBy.desc).map (fun d => d.parameters.length) = some 2 := by decide +kernel
theorem qv_X7_riskBy : yX7_riskBy.cls = RX7 ∧ yX7_riskBy.cls ≠ "java/lang/invoke/MethodHandle" ∧ yX7_riskBy.cls ≠ "java/lang/invoke/VarHandle" ∧ (parseMethodDescriptor yX7_riskBy.desc).map (fun d => d.parameters.length) = some 2 := ⟨rfl, qd_X7_riskBy⟩
theorem qd_X7_riskOfGrant : yX7_riskOfGrant.cls ≠ "java/lang/invoke/MethodHandle" ∧ yX7_riskOfGrant.cls ≠ "java/lang/invoke/VarHandle" ∧ (parseMethodDescriptor yX7_riskOfGrant.desc).map (fun d => d.parameters.length) = some 1 := by decide +kernel
theorem qv_X7_riskOfGrant : yX7_riskOfGrant.cls = RX7 ∧ yX7_riskOfGrant.cls ≠ "java/lang/invoke/MethodHandle" ∧ yX7_riskOfGrant.cls ≠ "java/lang/invoke/VarHandle" ∧ (parseMethodDescriptor yX7_riskOfGrant.desc).map (fun d => d.parameters.length) = some 1 := ⟨rfl, qd_X7_riskOfGrant⟩
theorem qd_X7_size : yX7_size.cls ≠ "java/lang/invoke/MethodHandle" ∧ yX7_size.cls ≠ "java/lang/invoke/VarHandle" ∧ (parseMethodDescriptor yX7_size.desc).map (fun d => d.parameters.length) = some 1 := by decide +kernel
theorem qv_X7_size : yX7_size.cls = RX7 ∧ yX7_size.cls ≠ "java/lang/invoke/MethodHandle" ∧ yX7_size.cls ≠ "java/lang/invoke/VarHandle" ∧ (parseMethodDescriptor yX7_size.desc).map (fun d => d.parameters.length) = some 1 := ⟨rfl, qd_X7_size⟩
theorem qd_X7_thrown : yX7_thrown.cls ≠ "java/lang/invoke/MethodHandle" ∧ yX7_thrown.cls ≠ "java/lang/invoke/VarHandle" ∧ (parseMethodDescriptor yX7_thrown.desc).map (fun d => d.parameters.length) = some 0 := by decide +kernel
theorem qv_X7_thrown : yX7_thrown.cls = RX7 ∧ yX7_thrown.cls ≠ "java/lang/invoke/MethodHandle" ∧ yX7_thrown.cls ≠ "java/lang/invoke/VarHandle" ∧ (parseMethodDescriptor yX7_thrown.desc).map (fun d => d.parameters.length) = some 0 := ⟨rfl, qd_X7_thrown⟩
theorem qd_X7_undecidedMany : yX7_undecidedMany.cls ≠ "java/lang/invoke/MethodHandle" ∧ yX7_undecidedMany.cls ≠ "java/lang/invoke/VarHandle" ∧ (parseMethodDescriptor yX7_undecidedMany.desc).map (fun d => d.parameters.length) = some 0 := by decide +kernel
theorem qv_X7_undecidedMany : yX7_undecidedMany.cls = RX7 ∧ yX7_undecidedMany.cls ≠ "java/lang/invoke/MethodHandle" ∧ yX7_undecidedMany.cls ≠ "java/lang/invoke/VarHandle" ∧ (parseMethodDescriptor yX7_undecidedMany.desc).map (fun d => d.parameters.length) = some 0 := ⟨rfl, qd_X7_undecidedMany⟩
def pkF (σ : ZS) (q : Nat) (o : Nat) (c : Int32) : Int32 := if ¬ o = q ∧ σ.2.2 0 o = σ.2.2 0 q then c + 1 else c
def otF (σ : ZS) (q : Nat) (h : Int32) (o : Nat) (c : Int32) : Int32 := if ¬ o = q ∧ σ.2.2 0 o = σ.2.2 0 q then (if hB h o then c else c + 1) else c
theorem zI.mgrp {σ : ZS} (h : zI σ) (g : Nat) (hg : g < σ.1 3) (c : ¬ σ.2.2 26 g = 0) : ∃ j, j < σ.1 1 ∧ σ.2.2 21 g = -1 ∧ σ.2.2 22 g = nI j ∧ σ.2.2 25 g = nI j := by
  rcases h.tgt g hg with ⟨j, hj, -, -, -, e⟩ | ⟨j, hj, e1, e2, e3, -⟩
  · exact absurd e c
  · exact ⟨j, hj, e1, e2, e3⟩
theorem zI.mper {σ : ZS} (h : zI σ) (g : Nat) (hg : g < σ.1 3) (c : σ.2.2 26 g = 0) : ∃ j, j < σ.1 0 ∧ σ.2.2 21 g = nI j ∧ σ.2.2 25 g = nI j := by
  rcases h.tgt g hg with ⟨j, hj, e1, -, e3, -⟩ | ⟨j, hj, -, -, -, e⟩
  · exact ⟨j, hj, e1, e3⟩
  · rw [e] at c
    exact absurd c (by decide)
theorem peers_hB {σ : ZS} (hI : zI σ) {q k : Nat} (hk : k < 32) : hB (peersI σ q) k ↔ k < σ.1 0 ∧ ¬ k = q ∧ σ.2.2 0 k = σ.2.2 0 q := by
  have hb := hI.bd.1
  have : ∀ m, m ≤ σ.1 0 → (hB (fN (peersF σ q) 0 m) k ↔ k < m ∧ ¬ k = q ∧ σ.2.2 0 k = σ.2.2 0 q) := by
    intro m
    induction m with
    | zero => intro _; exact ⟨fun h => absurd h (hB_0 hk), fun h => by omega⟩
    | succ m ih =>
      intro hm
      rw [fN_s, peersF]
      split
      · rename_i hc
        rw [hB_or hk, ih (by omega), hB_bt1 (by omega) hk]
        constructor
        · rintro (⟨h1, h2⟩ | h1)
          · exact ⟨by omega, h2⟩
          · subst h1; exact ⟨by omega, hc⟩
        · rintro ⟨h1, h2⟩
          by_cases e : k = m
          · exact Or.inr e.symm
          · exact Or.inl ⟨by omega, h2⟩
      · rename_i hc
        rw [ih (by omega)]
        constructor
        · rintro ⟨h1, h2⟩; exact ⟨by omega, h2⟩
        · rintro ⟨h1, h2⟩
          by_cases e : k = m
          · subst e; exact absurd h2 hc
          · exact ⟨by omega, h2⟩
  exact this _ (Nat.le_refl _)
theorem peers_sm {σ : ZS} (hI : zI σ) {q : Nat} : zSm (peersI σ q) 10 := fun k h1 h2 h => by
  have := ((peers_hB hI h2).mp h).1
  have := hI.bd.1
  omega
theorem zpk_eq {σ : ZS} (hI : zI σ) {q : Nat} (hq : q < σ.1 0) : fN (pkF σ q) 0 (σ.1 0) = bcnt (peersI σ q) := by
  have hb := hI.bd.1
  rw [bcnt_sm (peers_sm hI), size_cnt (P := fun k => ¬ k = q ∧ σ.2.2 0 k = σ.2.2 0 q) (n := σ.1 0) (by omega) (fun k hk => peers_hB hI (by omega))]
  rfl
theorem zot_eq {σ : ZS} (hI : zI σ) {q : Nat} {h : Int32} (hq : q < σ.1 0) : fN (otF σ q h) 0 (σ.1 0) = bcnt (peersI σ q &&& (h ^^^ -1)) := by
  have hb := hI.bd.1
  rw [bcnt_sm (zSm_and (peers_sm hI)), size_cnt (P := fun k => (¬ k = q ∧ σ.2.2 0 k = σ.2.2 0 q) ∧ ¬ hB h k) (n := σ.1 0) (by omega) (fun k hk => by rw [hB_and (by omega), peers_hB hI (by omega), hB_not (by omega), and_assoc])]
  have : ∀ m, fN (otF σ q h) (0 : Int32) m = fN (fun o c => if (¬ o = q ∧ σ.2.2 0 o = σ.2.2 0 q) ∧ ¬ hB h o then c + 1 else c) (0 : Int32) m := by
    intro m
    induction m with
    | zero => rfl
    | succ m ih =>
      rw [fN_s, fN_s, ih, otF]
      by_cases h1 : ¬ m = q ∧ σ.2.2 0 m = σ.2.2 0 q
      · by_cases h2 : hB h m
        · rw [if_pos h1, if_pos h2, if_neg (fun q => q.2 h2)]
        · rw [if_pos h1, if_neg h2, if_pos ⟨h1, h2⟩]
      · rw [if_neg h1, if_neg (fun q => h1 q.1)]
  exact this _
set_option maxHeartbeats 4000000 in
set_option maxRecDepth 100000 in
theorem k_X7_thrown (l : Launch) (D : va_G) (ad : Nat → Nat) (T : Nat → ClassId) (σ : ZS)  : zM l yX7_thrown wsX7_thrown ({ frames := 0, cells := 0, slots := 0, locals := 0 }) D (zT T) [.ref (ad 0)] (wM ad T σ) 0 0 (qI D (zT T) (fun v0 w => v0 = σ.2.1 8 ∧ w = wM ad T (σ))) := by
  refine zg_of (cc := cX7_thrown) (maxL := 1) (ret := (some .int)) (by decide) rfl (Nat.le_of_ble_eq_true rfl) (fun p e s m below meth c A hin hr X => ?_)
  have X : zC p s m _ meth c cX7_thrown 1 wsX7_thrown RX7 D (zT T) A := X
  have f7 : ∀ w ∈ u_ws RX7 TX7 37, w ∈ wsX7_thrown := by decide +kernel
  have l85 : Cond.fieldLink RX7 85 "RecertifyModel" "thrown" "I" ∈ wsX7_thrown := by decide +kernel
  refine zg_aload_n X dX7_thrown_0 rfl ?_
  refine rg_M_thrown X f7 l85 dX7_thrown_1 ?_
  exact zg_iret X hr dX7_thrown_4 (Nat.le_of_ble_eq_true rfl) (Nat.le_of_ble_eq_true rfl) (⟨rfl, rfl⟩)

set_option maxHeartbeats 4000000 in
set_option maxRecDepth 100000 in
theorem k_X7_fails (l : Launch) (D : va_G) (ad : Nat → Nat) (T : Nat → ClassId) (σ : ZS) (x : Int32) : zM l yX7_fails wsX7_fails ({ frames := 0, cells := 0, slots := 0, locals := 0 }) D (zT T) [.ref (ad 0), .int x] (wM ad T σ) 0 0 (qI D (zT T) (fun v0 w => v0 = 0 ∧ w = wM ad T (uN σ 8 x))) := by
  refine zg_of (cc := cX7_fails) (maxL := 2) (ret := (some .int)) (by decide) rfl (Nat.le_of_ble_eq_true rfl) (fun p e s m below meth c A hin hr X => ?_)
  have X : zC p s m _ meth c cX7_fails 2 wsX7_fails RX7 D (zT T) A := X
  have f7 : ∀ w ∈ u_ws RX7 TX7 37, w ∈ wsX7_fails := by decide +kernel
  have l85 : Cond.fieldLink RX7 85 "RecertifyModel" "thrown" "I" ∈ wsX7_fails := by decide +kernel
  refine zg_aload_n X dX7_fails_0 rfl ?_
  refine zg_iload_n X dX7_fails_1 rfl ?_
  refine rp_M_thrown X f7 l85 dX7_fails_2 ?_
  refine zg_iconst X (v := 0) dX7_fails_5 (by decide) ?_
  exact zg_iret X hr dX7_fails_6 (Nat.le_of_ble_eq_true rfl) (Nat.le_of_ble_eq_true rfl) (⟨rfl, rfl⟩)

set_option maxHeartbeats 4000000 in
set_option maxRecDepth 100000 in
theorem k_X7_isWrong (l : Launch) (D : va_G) (ad : Nat → Nat) (T : Nat → ClassId) (σ : ZS) (x : Int32) : zM l yX7_isWrong wsX7_isWrong ({ frames := 0, cells := 0, slots := 0, locals := 0 }) D (zT T) [.ref (ad 0), .int x] (wM ad T σ) 0 0 (qI D (zT T) (fun v0 w => v0 = 0 ∧ w = wM ad T (uN σ 8 x))) := by
  refine zg_of (cc := cX7_isWrong) (maxL := 2) (ret := (some .boolean)) (by decide) rfl (Nat.le_of_ble_eq_true rfl) (fun p e s m below meth c A hin hr X => ?_)
  have X : zC p s m _ meth c cX7_isWrong 2 wsX7_isWrong RX7 D (zT T) A := X
  have f7 : ∀ w ∈ u_ws RX7 TX7 37, w ∈ wsX7_isWrong := by decide +kernel
  have l85 : Cond.fieldLink RX7 85 "RecertifyModel" "thrown" "I" ∈ wsX7_isWrong := by decide +kernel
  refine zg_aload_n X dX7_isWrong_0 rfl ?_
  refine zg_iload_n X dX7_isWrong_1 rfl ?_
  refine rp_M_thrown X f7 l85 dX7_isWrong_2 ?_
  refine zg_iconst X (v := 0) dX7_isWrong_5 (by decide) ?_
  exact zg_nret X hr (rfl) dX7_isWrong_6 (Nat.le_of_ble_eq_true rfl) (Nat.le_of_ble_eq_true rfl) (⟨rfl, rfl⟩)

set_option maxHeartbeats 4000000 in
set_option maxRecDepth 100000 in
theorem k_X7_isBetween (l : Launch) (D : va_G) (ad : Nat → Nat) (T : Nat → ClassId) (σ : ZS) (x lo hi : Int32) : zM l yX7_isBetween wsX7_isBetween ({ frames := 0, cells := 0, slots := 0, locals := 0 }) D (zT T) [.int x, .int lo, .int hi] (wM ad T σ) 0 0 (qI D (zT T) (fun v0 w => v0 = bI (lo ≤ x ∧ x ≤ hi) ∧ w = wM ad T (σ))) := by
  refine zg_of (cc := cX7_isBetween) (maxL := 3) (ret := (some .boolean)) (by decide) rfl (Nat.le_of_ble_eq_true rfl) (fun p e s m below meth c A hin hr X => ?_)
  have X : zC p s m _ meth c cX7_isBetween 3 wsX7_isBetween RX7 D (zT T) A := X
  refine zg_iload_n X dX7_isBetween_0 rfl ?_
  refine zg_iload_n X dX7_isBetween_1 rfl ?_
  refine zg_icmp_gt X dX7_isBetween_2 (tgt := 14) (by decide) (fun c_2 => ?_) (fun c_2 => ?_)
  · skip
    refine zg_iconst X (v := 0) dX7_isBetween_14 (by decide) ?_
    exact zg_nret X hr (rfl) dX7_isBetween_15 (Nat.le_of_ble_eq_true rfl) (Nat.le_of_ble_eq_true rfl) (⟨(bI_f (fun q => zi_lt.mp c_2 q.1)).symm, rfl⟩)
  · skip
    refine zg_iload_n X dX7_isBetween_5 rfl ?_
    refine zg_iload_n X dX7_isBetween_6 rfl ?_
    refine zg_icmp_gt X dX7_isBetween_7 (tgt := 14) (by decide) (fun c_7 => ?_) (fun c_7 => ?_)
    · skip
      refine zg_iconst X (v := 0) dX7_isBetween_14 (by decide) ?_
      exact zg_nret X hr (rfl) dX7_isBetween_15 (Nat.le_of_ble_eq_true rfl) (Nat.le_of_ble_eq_true rfl) (⟨(bI_f (fun q => zi_lt.mp c_7 q.2)).symm, rfl⟩)
    · skip
      refine zg_iconst X (v := 1) dX7_isBetween_10 (by decide) ?_
      refine zg_goto X dX7_isBetween_11 (tgt := 15) (by decide) ?_
      exact zg_nret X hr (rfl) dX7_isBetween_15 (Nat.le_of_ble_eq_true rfl) (Nat.le_of_ble_eq_true rfl) (⟨(bI_t ⟨zi_le.mpr c_2, zi_le.mpr c_7⟩).symm, rfl⟩)

set_option maxHeartbeats 4000000 in
set_option maxRecDepth 100000 in
theorem k_X7_has (l : Launch) (D : va_G) (ad : Nat → Nat) (T : Nat → ClassId) (σ : ZS) (x : Int32) (k : Nat) (hk : k < 32) : zM l yX7_has wsX7_has ({ frames := 0, cells := 0, slots := 0, locals := 0 }) D (zT T) [.int x, .int (nI k)] (wM ad T σ) 0 0 (qI D (zT T) (fun v0 w => v0 = bI (hB x k) ∧ w = wM ad T (σ))) := by
  refine zg_of (cc := cX7_has) (maxL := 2) (ret := (some .boolean)) (by decide) rfl (Nat.le_of_ble_eq_true rfl) (fun p e s m below meth c A hin hr X => ?_)
  have X : zC p s m _ meth c cX7_has 2 wsX7_has RX7 D (zT T) A := X
  refine zg_iload_n X dX7_has_0 rfl ?_
  refine zg_iload_n X dX7_has_1 rfl ?_
  refine zg_ishr X dX7_has_2 ?_
  refine zg_iconst X (v := 1) dX7_has_3 (by decide) ?_
  refine zg_iand X dX7_has_4 ?_
  refine zg_iconst X (v := 1) dX7_has_5 (by decide) ?_
  refine zg_icmp_ne X dX7_has_6 (tgt := 13) (by decide) (fun c_6 => ?_) (fun c_6 => ?_)
  · skip
    refine zg_iconst X (v := 0) dX7_has_13 (by decide) ?_
    exact zg_nret X hr (rfl) dX7_has_14 (Nat.le_of_ble_eq_true rfl) (Nat.le_of_ble_eq_true rfl) (⟨(bI_f (fun q => c_6 ((hB_sh hk).mpr q))).symm, rfl⟩)
  · skip
    refine zg_iconst X (v := 1) dX7_has_9 (by decide) ?_
    refine zg_goto X dX7_has_10 (tgt := 14) (by decide) ?_
    exact zg_nret X hr (rfl) dX7_has_14 (Nat.le_of_ble_eq_true rfl) (Nat.le_of_ble_eq_true rfl) (⟨(bI_t ((hB_sh hk).mp c_6)).symm, rfl⟩)

set_option maxHeartbeats 4000000 in
set_option maxRecDepth 100000 in
theorem k_X7_size (l : Launch) (D : va_G) (ad : Nat → Nat) (T : Nat → ClassId) (σ : ZS) (x : Int32) : zM l yX7_size wsX7_size ({ frames := 1, cells := 0, slots := 0, locals := 21 }) D (zT T) [.int x] (wM ad T σ) 0 0 (qI D (zT T) (fun v0 w => v0 = sizeI x ∧ w = wM ad T (σ))) := by
  refine zg_of (cc := cX7_size) (maxL := 3) (ret := (some .int)) (by decide) rfl (Nat.le_of_ble_eq_true rfl) (fun p e s m below meth c A hin hr X => ?_)
  have X : zC p s m _ meth c cX7_size 3 wsX7_size RX7 D (zT T) A := X
  refine zg_iconst X (v := 0) dX7_size_0 (by decide) ?_
  refine zg_istore_n X dX7_size_1 (by decide) ?_
  refine zg_iconst X (v := 0) dX7_size_2 (by decide) ?_
  refine zg_istore_n X dX7_size_3 (by decide) ?_
  have LP4 : ∀ (fu : Nat) (i : Nat) (acc : Int32), 16 + 1 ≤ i + fu → i ≤ 16 → acc = fN (fun k n => n + bI (hB x k)) 0 i → zG p l e (headSpec wsX7_size ({ frames := 1, cells := 0, slots := 0, locals := 21 })).room s m [.int x].toArray below meth c D 3 A 0 0 (MQ below (qI D (zT T) (fun v0 w => v0 = sizeI x ∧ w = wM ad T (σ)) A) [.int x].toArray s 0 0 A) (wM ad T σ) 4 [(0, .int x), (1, .int acc), (2, .int (nI i))] [] := by
    intro fu
    induction fu with
    | zero => intro i acc hfu hii _; exact absurd hfu (by omega)
    | succ fu ih4 =>
      intro i acc hfu hii hacc
      refine zg_iload_n X dX7_size_4 rfl ?_
      refine zg_bipush X (v := 16) dX7_size_5 (by decide) ?_
      refine zg_icmpn_ge X dX7_size_7 (tgt := 32) (by decide) (a := i) (b := 16) (by omega) (by omega) (fun c_7 => ?_) (fun c_7 => ?_)
      · skip
        refine zg_iload_n X dX7_size_32 rfl ?_
        exact zg_iret X hr dX7_size_33 (Nat.le_of_ble_eq_true rfl) (Nat.le_of_ble_eq_true rfl) (⟨by rw [hacc, sizeI, show i = 16 by omega], rfl⟩)
      · skip
        refine zg_iload_n X dX7_size_10 rfl ?_
        refine zg_iload_n X dX7_size_11 rfl ?_
        refine zg_iload_n X dX7_size_12 rfl ?_
        refine zg_callSi X (k_X7_has l D ad T _ x i (by omega)) zFr.rf gX7_size_X7_has rfl rfl rfl qd_X7_has rfl ⟨Nat.le_of_ble_eq_true rfl, Nat.le_of_ble_eq_true rfl⟩ rfl (Nat.le_of_ble_eq_true rfl) ⟨Nat.le_of_ble_eq_true rfl, Nat.le_of_ble_eq_true rfl⟩ dX7_size_13 (fun r w1 hz9 => ?_)
        obtain ⟨rfl, rfl⟩ := hz9
        refine zg_if_eqb X dX7_size_16 (tgt := 23) (by decide) (fun c_16 => ?_) (fun c_16 => ?_)
        · skip
          refine zg_iconst X (v := 0) dX7_size_23 (by decide) ?_
          refine zg_iadd X dX7_size_24 ?_
          refine zg_istore_n X dX7_size_25 (by decide) ?_
          refine zg_iinc1 X dX7_size_26 (by decide) rfl ?_
          refine zg_goto X dX7_size_29 (tgt := 4) (by decide) ?_
          exact zg_lv (by exact ⟨rfl, rfl, rfl, trivial⟩) (ih4 (i + 1) _ (by omega) (by omega) (by rw [fN, ← hacc, bI_f c_16]))
        · skip
          refine zg_iconst X (v := 1) dX7_size_19 (by decide) ?_
          refine zg_goto X dX7_size_20 (tgt := 24) (by decide) ?_
          refine zg_iadd X dX7_size_24 ?_
          refine zg_istore_n X dX7_size_25 (by decide) ?_
          refine zg_iinc1 X dX7_size_26 (by decide) rfl ?_
          refine zg_goto X dX7_size_29 (tgt := 4) (by decide) ?_
          exact zg_lv (by exact ⟨rfl, rfl, rfl, trivial⟩) (ih4 (i + 1) _ (by omega) (by omega) (by rw [fN, ← hacc, bI_t c_16]))
  exact zg_lv (by exact ⟨rfl, rfl, rfl, trivial⟩) (LP4 (16 + 1) 0 _ (by omega) (by omega) rfl)

set_option maxHeartbeats 4000000 in
set_option maxRecDepth 100000 in
theorem k_X7_isPerson (l : Launch) (D : va_G) (ad : Nat → Nat) (T : Nat → ClassId) (σ : ZS) (hB0 : zBd σ) (x : Int32) : zM l yX7_isPerson wsX7_isPerson ({ frames := 1, cells := 0, slots := 0, locals := 22 }) D (zT T) [.ref (ad 0), .int x] (wM ad T σ) 0 0 (qI D (zT T) (fun v0 w => v0 = bI (pIn x (σ.1 0)) ∧ w = wM ad T (σ))) := by
  have hB1 := hB0
  obtain ⟨b0, b1, b2, b3, b4, b5⟩ := hB1
  refine zg_of (cc := cX7_isPerson) (maxL := 2) (ret := (some .boolean)) (by decide) rfl (Nat.le_of_ble_eq_true rfl) (fun p e s m below meth c A hin hr X => ?_)
  have X : zC p s m _ meth c cX7_isPerson 2 wsX7_isPerson RX7 D (zT T) A := X
  have f7 : ∀ w ∈ u_ws RX7 TX7 37, w ∈ wsX7_isPerson := by decide +kernel
  have l92 : Cond.fieldLink RX7 92 "RecertifyModel" "people" "I" ∈ wsX7_isPerson := by decide +kernel
  refine zg_iload_n X dX7_isPerson_0 rfl ?_
  refine zg_iconst X (v := 0) dX7_isPerson_1 (by decide) ?_
  refine zg_aload_n X dX7_isPerson_2 rfl ?_
  refine rg_M_people X f7 l92 dX7_isPerson_3 ?_
  refine zg_iconst X (v := 1) dX7_isPerson_6 (by decide) ?_
  refine zg_isub X dX7_isPerson_7 ?_
  refine zg_callSi X (k_X7_isBetween l D ad T _ x 0 _) zFr.rf gX7_isPerson_X7_isBetween rfl rfl rfl qd_X7_isBetween rfl ⟨Nat.le_of_ble_eq_true rfl, Nat.le_of_ble_eq_true rfl⟩ rfl (Nat.le_of_ble_eq_true rfl) ⟨Nat.le_of_ble_eq_true rfl, Nat.le_of_ble_eq_true rfl⟩ dX7_isPerson_8 (fun r w1 hz9 => ?_)
  obtain ⟨rfl, rfl⟩ := hz9
  refine zg_top (bI_c (and_congr Iff.rfl (le_sub1 (by omega)))) ?_
  exact zg_nret X hr (bI_nar) dX7_isPerson_11 (Nat.le_of_ble_eq_true rfl) (Nat.le_of_ble_eq_true rfl) (⟨rfl, rfl⟩)

set_option maxHeartbeats 4000000 in
set_option maxRecDepth 100000 in
theorem k_X7_isGroup (l : Launch) (D : va_G) (ad : Nat → Nat) (T : Nat → ClassId) (σ : ZS) (hB0 : zBd σ) (x : Int32) : zM l yX7_isGroup wsX7_isGroup ({ frames := 1, cells := 0, slots := 0, locals := 22 }) D (zT T) [.ref (ad 0), .int x] (wM ad T σ) 0 0 (qI D (zT T) (fun v0 w => v0 = bI (pIn x (σ.1 1)) ∧ w = wM ad T (σ))) := by
  have hB1 := hB0
  obtain ⟨b0, b1, b2, b3, b4, b5⟩ := hB1
  refine zg_of (cc := cX7_isGroup) (maxL := 2) (ret := (some .boolean)) (by decide) rfl (Nat.le_of_ble_eq_true rfl) (fun p e s m below meth c A hin hr X => ?_)
  have X : zC p s m _ meth c cX7_isGroup 2 wsX7_isGroup RX7 D (zT T) A := X
  have f7 : ∀ w ∈ u_ws RX7 TX7 37, w ∈ wsX7_isGroup := by decide +kernel
  have l99 : Cond.fieldLink RX7 99 "RecertifyModel" "groups" "I" ∈ wsX7_isGroup := by decide +kernel
  refine zg_iload_n X dX7_isGroup_0 rfl ?_
  refine zg_iconst X (v := 0) dX7_isGroup_1 (by decide) ?_
  refine zg_aload_n X dX7_isGroup_2 rfl ?_
  refine rg_M_groups X f7 l99 dX7_isGroup_3 ?_
  refine zg_iconst X (v := 1) dX7_isGroup_6 (by decide) ?_
  refine zg_isub X dX7_isGroup_7 ?_
  refine zg_callSi X (k_X7_isBetween l D ad T _ x 0 _) zFr.rf gX7_isGroup_X7_isBetween rfl rfl rfl qd_X7_isBetween rfl ⟨Nat.le_of_ble_eq_true rfl, Nat.le_of_ble_eq_true rfl⟩ rfl (Nat.le_of_ble_eq_true rfl) ⟨Nat.le_of_ble_eq_true rfl, Nat.le_of_ble_eq_true rfl⟩ dX7_isGroup_8 (fun r w1 hz9 => ?_)
  obtain ⟨rfl, rfl⟩ := hz9
  refine zg_top (bI_c (and_congr Iff.rfl (le_sub1 (by omega)))) ?_
  exact zg_nret X hr (bI_nar) dX7_isGroup_11 (Nat.le_of_ble_eq_true rfl) (Nat.le_of_ble_eq_true rfl) (⟨rfl, rfl⟩)

set_option maxHeartbeats 4000000 in
set_option maxRecDepth 100000 in
theorem k_X7_isRight (l : Launch) (D : va_G) (ad : Nat → Nat) (T : Nat → ClassId) (σ : ZS) (hB0 : zBd σ) (x : Int32) : zM l yX7_isRight wsX7_isRight ({ frames := 1, cells := 0, slots := 0, locals := 22 }) D (zT T) [.ref (ad 0), .int x] (wM ad T σ) 0 0 (qI D (zT T) (fun v0 w => v0 = bI (pIn x (σ.1 2)) ∧ w = wM ad T (σ))) := by
  have hB1 := hB0
  obtain ⟨b0, b1, b2, b3, b4, b5⟩ := hB1
  refine zg_of (cc := cX7_isRight) (maxL := 2) (ret := (some .boolean)) (by decide) rfl (Nat.le_of_ble_eq_true rfl) (fun p e s m below meth c A hin hr X => ?_)
  have X : zC p s m _ meth c cX7_isRight 2 wsX7_isRight RX7 D (zT T) A := X
  have f7 : ∀ w ∈ u_ws RX7 TX7 37, w ∈ wsX7_isRight := by decide +kernel
  have l102 : Cond.fieldLink RX7 102 "RecertifyModel" "rights" "I" ∈ wsX7_isRight := by decide +kernel
  refine zg_iload_n X dX7_isRight_0 rfl ?_
  refine zg_iconst X (v := 0) dX7_isRight_1 (by decide) ?_
  refine zg_aload_n X dX7_isRight_2 rfl ?_
  refine rg_M_rights X f7 l102 dX7_isRight_3 ?_
  refine zg_iconst X (v := 1) dX7_isRight_6 (by decide) ?_
  refine zg_isub X dX7_isRight_7 ?_
  refine zg_callSi X (k_X7_isBetween l D ad T _ x 0 _) zFr.rf gX7_isRight_X7_isBetween rfl rfl rfl qd_X7_isBetween rfl ⟨Nat.le_of_ble_eq_true rfl, Nat.le_of_ble_eq_true rfl⟩ rfl (Nat.le_of_ble_eq_true rfl) ⟨Nat.le_of_ble_eq_true rfl, Nat.le_of_ble_eq_true rfl⟩ dX7_isRight_8 (fun r w1 hz9 => ?_)
  obtain ⟨rfl, rfl⟩ := hz9
  refine zg_top (bI_c (and_congr Iff.rfl (le_sub1 (by omega)))) ?_
  exact zg_nret X hr (bI_nar) dX7_isRight_11 (Nat.le_of_ble_eq_true rfl) (Nat.le_of_ble_eq_true rfl) (⟨rfl, rfl⟩)

set_option maxHeartbeats 4000000 in
set_option maxRecDepth 100000 in
theorem k_X7_isGrant (l : Launch) (D : va_G) (ad : Nat → Nat) (T : Nat → ClassId) (σ : ZS) (hB0 : zBd σ) (x : Int32) : zM l yX7_isGrant wsX7_isGrant ({ frames := 1, cells := 0, slots := 0, locals := 22 }) D (zT T) [.ref (ad 0), .int x] (wM ad T σ) 0 0 (qI D (zT T) (fun v0 w => v0 = bI (pIn x (σ.1 3)) ∧ w = wM ad T (σ))) := by
  have hB1 := hB0
  obtain ⟨b0, b1, b2, b3, b4, b5⟩ := hB1
  refine zg_of (cc := cX7_isGrant) (maxL := 2) (ret := (some .boolean)) (by decide) rfl (Nat.le_of_ble_eq_true rfl) (fun p e s m below meth c A hin hr X => ?_)
  have X : zC p s m _ meth c cX7_isGrant 2 wsX7_isGrant RX7 D (zT T) A := X
  have f7 : ∀ w ∈ u_ws RX7 TX7 37, w ∈ wsX7_isGrant := by decide +kernel
  have l105 : Cond.fieldLink RX7 105 "RecertifyModel" "grants" "I" ∈ wsX7_isGrant := by decide +kernel
  refine zg_iload_n X dX7_isGrant_0 rfl ?_
  refine zg_iconst X (v := 0) dX7_isGrant_1 (by decide) ?_
  refine zg_aload_n X dX7_isGrant_2 rfl ?_
  refine rg_M_grants X f7 l105 dX7_isGrant_3 ?_
  refine zg_iconst X (v := 1) dX7_isGrant_6 (by decide) ?_
  refine zg_isub X dX7_isGrant_7 ?_
  refine zg_callSi X (k_X7_isBetween l D ad T _ x 0 _) zFr.rf gX7_isGrant_X7_isBetween rfl rfl rfl qd_X7_isBetween rfl ⟨Nat.le_of_ble_eq_true rfl, Nat.le_of_ble_eq_true rfl⟩ rfl (Nat.le_of_ble_eq_true rfl) ⟨Nat.le_of_ble_eq_true rfl, Nat.le_of_ble_eq_true rfl⟩ dX7_isGrant_8 (fun r w1 hz9 => ?_)
  obtain ⟨rfl, rfl⟩ := hz9
  refine zg_top (bI_c (and_congr Iff.rfl (le_sub1 (by omega)))) ?_
  exact zg_nret X hr (bI_nar) dX7_isGrant_11 (Nat.le_of_ble_eq_true rfl) (Nat.le_of_ble_eq_true rfl) (⟨rfl, rfl⟩)

set_option maxHeartbeats 4000000 in
set_option maxRecDepth 100000 in
theorem k_X7_isItem (l : Launch) (D : va_G) (ad : Nat → Nat) (T : Nat → ClassId) (σ : ZS) (hB0 : zBd σ) (x : Int32) : zM l yX7_isItem wsX7_isItem ({ frames := 1, cells := 0, slots := 0, locals := 22 }) D (zT T) [.ref (ad 0), .int x] (wM ad T σ) 0 0 (qI D (zT T) (fun v0 w => v0 = bI (pIn x (σ.1 4)) ∧ w = wM ad T (σ))) := by
  have hB1 := hB0
  obtain ⟨b0, b1, b2, b3, b4, b5⟩ := hB1
  refine zg_of (cc := cX7_isItem) (maxL := 2) (ret := (some .boolean)) (by decide) rfl (Nat.le_of_ble_eq_true rfl) (fun p e s m below meth c A hin hr X => ?_)
  have X : zC p s m _ meth c cX7_isItem 2 wsX7_isItem RX7 D (zT T) A := X
  have f7 : ∀ w ∈ u_ws RX7 TX7 37, w ∈ wsX7_isItem := by decide +kernel
  have l179 : Cond.fieldLink RX7 179 "RecertifyModel" "items" "I" ∈ wsX7_isItem := by decide +kernel
  refine zg_iload_n X dX7_isItem_0 rfl ?_
  refine zg_iconst X (v := 0) dX7_isItem_1 (by decide) ?_
  refine zg_aload_n X dX7_isItem_2 rfl ?_
  refine rg_M_items X f7 l179 dX7_isItem_3 ?_
  refine zg_iconst X (v := 1) dX7_isItem_6 (by decide) ?_
  refine zg_isub X dX7_isItem_7 ?_
  refine zg_callSi X (k_X7_isBetween l D ad T _ x 0 _) zFr.rf gX7_isItem_X7_isBetween rfl rfl rfl qd_X7_isBetween rfl ⟨Nat.le_of_ble_eq_true rfl, Nat.le_of_ble_eq_true rfl⟩ rfl (Nat.le_of_ble_eq_true rfl) ⟨Nat.le_of_ble_eq_true rfl, Nat.le_of_ble_eq_true rfl⟩ dX7_isItem_8 (fun r w1 hz9 => ?_)
  obtain ⟨rfl, rfl⟩ := hz9
  refine zg_top (bI_c (and_congr Iff.rfl (le_sub1 (by omega)))) ?_
  exact zg_nret X hr (bI_nar) dX7_isItem_11 (Nat.le_of_ble_eq_true rfl) (Nat.le_of_ble_eq_true rfl) (⟨rfl, rfl⟩)

set_option maxHeartbeats 4000000 in
set_option maxRecDepth 100000 in
theorem k_X7_isEntry (l : Launch) (D : va_G) (ad : Nat → Nat) (T : Nat → ClassId) (σ : ZS) (hB0 : zBd σ) (x : Int32) : zM l yX7_isEntry wsX7_isEntry ({ frames := 1, cells := 0, slots := 0, locals := 22 }) D (zT T) [.ref (ad 0), .int x] (wM ad T σ) 0 0 (qI D (zT T) (fun v0 w => v0 = bI (pIn x (σ.1 5)) ∧ w = wM ad T (σ))) := by
  have hB1 := hB0
  obtain ⟨b0, b1, b2, b3, b4, b5⟩ := hB1
  refine zg_of (cc := cX7_isEntry) (maxL := 2) (ret := (some .boolean)) (by decide) rfl (Nat.le_of_ble_eq_true rfl) (fun p e s m below meth c A hin hr X => ?_)
  have X : zC p s m _ meth c cX7_isEntry 2 wsX7_isEntry RX7 D (zT T) A := X
  have f7 : ∀ w ∈ u_ws RX7 TX7 37, w ∈ wsX7_isEntry := by decide +kernel
  have l171 : Cond.fieldLink RX7 171 "RecertifyModel" "entries" "I" ∈ wsX7_isEntry := by decide +kernel
  refine zg_iload_n X dX7_isEntry_0 rfl ?_
  refine zg_iconst X (v := 0) dX7_isEntry_1 (by decide) ?_
  refine zg_aload_n X dX7_isEntry_2 rfl ?_
  refine rg_M_entries X f7 l171 dX7_isEntry_3 ?_
  refine zg_iconst X (v := 1) dX7_isEntry_6 (by decide) ?_
  refine zg_isub X dX7_isEntry_7 ?_
  refine zg_callSi X (k_X7_isBetween l D ad T _ x 0 _) zFr.rf gX7_isEntry_X7_isBetween rfl rfl rfl qd_X7_isBetween rfl ⟨Nat.le_of_ble_eq_true rfl, Nat.le_of_ble_eq_true rfl⟩ rfl (Nat.le_of_ble_eq_true rfl) ⟨Nat.le_of_ble_eq_true rfl, Nat.le_of_ble_eq_true rfl⟩ dX7_isEntry_8 (fun r w1 hz9 => ?_)
  obtain ⟨rfl, rfl⟩ := hz9
  refine zg_top (bI_c (and_congr Iff.rfl (le_sub1 (by omega)))) ?_
  exact zg_nret X hr (bI_nar) dX7_isEntry_11 (Nat.le_of_ble_eq_true rfl) (Nat.le_of_ble_eq_true rfl) (⟨rfl, rfl⟩)

set_option maxHeartbeats 4000000 in
set_option maxRecDepth 100000 in
theorem k_X7_isNotThere (l : Launch) (D : va_G) (ad : Nat → Nat) (T : Nat → ClassId) (σ : ZS) (hB0 : zBd σ) (x y : Int32) : zM l yX7_isNotThere wsX7_isNotThere ({ frames := 2, cells := 0, slots := 0, locals := 43 }) D (zT T) [.ref (ad 0), .int x, .int y] (wM ad T σ) 0 0 (qI D (zT T) (fun v0 w => v0 = bI (¬ (pIn x (σ.1 1) ∧ pIn y (σ.1 0))) ∧ w = wM ad T (uN σ 8 (if (pIn x (σ.1 1) ∧ pIn y (σ.1 0)) then 0 else 1)))) := by
  have hB1 := hB0
  obtain ⟨b0, b1, b2, b3, b4, b5⟩ := hB1
  refine zg_of (cc := cX7_isNotThere) (maxL := 3) (ret := (some .boolean)) (by decide) rfl (Nat.le_of_ble_eq_true rfl) (fun p e s m below meth c A hin hr X => ?_)
  have X : zC p s m _ meth c cX7_isNotThere 3 wsX7_isNotThere RX7 D (zT T) A := X
  have f7 : ∀ w ∈ u_ws RX7 TX7 37, w ∈ wsX7_isNotThere := by decide +kernel
  have l85 : Cond.fieldLink RX7 85 "RecertifyModel" "thrown" "I" ∈ wsX7_isNotThere := by decide +kernel
  refine zg_aload_n X dX7_isNotThere_0 rfl ?_
  refine zg_aload_n X dX7_isNotThere_1 rfl ?_
  refine zg_iload_n X dX7_isNotThere_2 rfl ?_
  refine zg_callVi X (k_X7_isGroup l D ad T _ hB0 _) zFr.rf gX7_isNotThere_X7_isGroup rfl rfl rfl qv_X7_isGroup rfl ⟨Nat.le_of_ble_eq_true rfl, Nat.le_of_ble_eq_true rfl⟩ (q0 := 0) (ci := 9) rfl rfl rfl (Nat.le_of_ble_eq_true rfl) ⟨Nat.le_of_ble_eq_true rfl, Nat.le_of_ble_eq_true rfl⟩ dX7_isNotThere_3 (fun r w1 hz9 => ?_)
  obtain ⟨rfl, rfl⟩ := hz9
  refine zg_if_eqb X dX7_isNotThere_6 (tgt := 21) (by decide) (fun c_6 => ?_) (fun c_6 => ?_)
  · skip
    refine zg_iconst X (v := 1) dX7_isNotThere_21 (by decide) ?_
    refine rp_M_thrown X f7 l85 dX7_isNotThere_22 ?_
    refine zg_aload_n X dX7_isNotThere_25 rfl ?_
    refine rg_M_thrown X f7 l85 dX7_isNotThere_26 ?_
    refine zg_top (v' := 1) rfl ?_
    refine zg_if_le X dX7_isNotThere_29 (tgt := 36) (by decide) (fun q => absurd q (by decide)) (fun _ => ?_)
    refine zg_iconst X (v := 1) dX7_isNotThere_32 (by decide) ?_
    refine zg_goto X dX7_isNotThere_33 (tgt := 37) (by decide) ?_
    exact zg_nret X hr (rfl) dX7_isNotThere_37 (Nat.le_of_ble_eq_true rfl) (Nat.le_of_ble_eq_true rfl) (⟨(bI_t (show ¬ (pIn x (σ.1 1) ∧ pIn y (σ.1 0)) from fun q => c_6 q.1)).symm, by rw [if_neg (fun q : (pIn x (σ.1 1) ∧ pIn y (σ.1 0)) => c_6 q.1)]⟩)
  · skip
    refine zg_aload_n X dX7_isNotThere_9 rfl ?_
    refine zg_iload_n X dX7_isNotThere_10 rfl ?_
    refine zg_callVi X (k_X7_isPerson l D ad T _ hB0 _) zFr.rf gX7_isNotThere_X7_isPerson rfl rfl rfl qv_X7_isPerson rfl ⟨Nat.le_of_ble_eq_true rfl, Nat.le_of_ble_eq_true rfl⟩ (q0 := 0) (ci := 9) rfl rfl rfl (Nat.le_of_ble_eq_true rfl) ⟨Nat.le_of_ble_eq_true rfl, Nat.le_of_ble_eq_true rfl⟩ dX7_isNotThere_11 (fun r w1 hz9 => ?_)
    obtain ⟨rfl, rfl⟩ := hz9
    refine zg_if_eqb X dX7_isNotThere_14 (tgt := 21) (by decide) (fun c_14 => ?_) (fun c_14 => ?_)
    · skip
      refine zg_iconst X (v := 1) dX7_isNotThere_21 (by decide) ?_
      refine rp_M_thrown X f7 l85 dX7_isNotThere_22 ?_
      refine zg_aload_n X dX7_isNotThere_25 rfl ?_
      refine rg_M_thrown X f7 l85 dX7_isNotThere_26 ?_
      refine zg_top (v' := 1) rfl ?_
      refine zg_if_le X dX7_isNotThere_29 (tgt := 36) (by decide) (fun q => absurd q (by decide)) (fun _ => ?_)
      refine zg_iconst X (v := 1) dX7_isNotThere_32 (by decide) ?_
      refine zg_goto X dX7_isNotThere_33 (tgt := 37) (by decide) ?_
      exact zg_nret X hr (rfl) dX7_isNotThere_37 (Nat.le_of_ble_eq_true rfl) (Nat.le_of_ble_eq_true rfl) (⟨(bI_t (show ¬ (pIn x (σ.1 1) ∧ pIn y (σ.1 0)) from fun q => c_14 q.2)).symm, by rw [if_neg (fun q : (pIn x (σ.1 1) ∧ pIn y (σ.1 0)) => c_14 q.2)]⟩)
    · skip
      refine zg_iconst X (v := 0) dX7_isNotThere_17 (by decide) ?_
      refine zg_goto X dX7_isNotThere_18 (tgt := 22) (by decide) ?_
      refine rp_M_thrown X f7 l85 dX7_isNotThere_22 ?_
      refine zg_aload_n X dX7_isNotThere_25 rfl ?_
      refine rg_M_thrown X f7 l85 dX7_isNotThere_26 ?_
      refine zg_top (v' := 0) rfl ?_
      refine zg_if_le X dX7_isNotThere_29 (tgt := 36) (by decide) (fun _ => ?_) (fun q => absurd q (by decide))
      refine zg_iconst X (v := 0) dX7_isNotThere_36 (by decide) ?_
      exact zg_nret X hr (rfl) dX7_isNotThere_37 (Nat.le_of_ble_eq_true rfl) (Nat.le_of_ble_eq_true rfl) (⟨(bI_f (fun q : ¬ (pIn x (σ.1 1) ∧ pIn y (σ.1 0)) => q (And.intro c_6 c_14))).symm, by rw [if_pos (And.intro c_6 c_14)]⟩)

set_option maxHeartbeats 4000000 in
set_option maxRecDepth 100000 in
theorem k_X7_isNone (l : Launch) (D : va_G) (ad : Nat → Nat) (T : Nat → ClassId) (σ : ZS) (hB0 : zBd σ) (x y : Int32) : zM l yX7_isNone wsX7_isNone ({ frames := 2, cells := 0, slots := 0, locals := 43 }) D (zT T) [.ref (ad 0), .int x, .int y] (wM ad T σ) 0 0 (qI D (zT T) (fun v0 w => v0 = bI (¬ (pIn x (σ.1 0) ∧ pIn y (σ.1 2))) ∧ w = wM ad T (uN σ 8 (if (pIn x (σ.1 0) ∧ pIn y (σ.1 2)) then 0 else 1)))) := by
  have hB1 := hB0
  obtain ⟨b0, b1, b2, b3, b4, b5⟩ := hB1
  refine zg_of (cc := cX7_isNone) (maxL := 3) (ret := (some .boolean)) (by decide) rfl (Nat.le_of_ble_eq_true rfl) (fun p e s m below meth c A hin hr X => ?_)
  have X : zC p s m _ meth c cX7_isNone 3 wsX7_isNone RX7 D (zT T) A := X
  have f7 : ∀ w ∈ u_ws RX7 TX7 37, w ∈ wsX7_isNone := by decide +kernel
  have l85 : Cond.fieldLink RX7 85 "RecertifyModel" "thrown" "I" ∈ wsX7_isNone := by decide +kernel
  refine zg_aload_n X dX7_isNone_0 rfl ?_
  refine zg_aload_n X dX7_isNone_1 rfl ?_
  refine zg_iload_n X dX7_isNone_2 rfl ?_
  refine zg_callVi X (k_X7_isPerson l D ad T _ hB0 _) zFr.rf gX7_isNone_X7_isPerson rfl rfl rfl qv_X7_isPerson rfl ⟨Nat.le_of_ble_eq_true rfl, Nat.le_of_ble_eq_true rfl⟩ (q0 := 0) (ci := 9) rfl rfl rfl (Nat.le_of_ble_eq_true rfl) ⟨Nat.le_of_ble_eq_true rfl, Nat.le_of_ble_eq_true rfl⟩ dX7_isNone_3 (fun r w1 hz9 => ?_)
  obtain ⟨rfl, rfl⟩ := hz9
  refine zg_if_eqb X dX7_isNone_6 (tgt := 21) (by decide) (fun c_6 => ?_) (fun c_6 => ?_)
  · skip
    refine zg_iconst X (v := 1) dX7_isNone_21 (by decide) ?_
    refine rp_M_thrown X f7 l85 dX7_isNone_22 ?_
    refine zg_aload_n X dX7_isNone_25 rfl ?_
    refine rg_M_thrown X f7 l85 dX7_isNone_26 ?_
    refine zg_top (v' := 1) rfl ?_
    refine zg_if_le X dX7_isNone_29 (tgt := 36) (by decide) (fun q => absurd q (by decide)) (fun _ => ?_)
    refine zg_iconst X (v := 1) dX7_isNone_32 (by decide) ?_
    refine zg_goto X dX7_isNone_33 (tgt := 37) (by decide) ?_
    exact zg_nret X hr (rfl) dX7_isNone_37 (Nat.le_of_ble_eq_true rfl) (Nat.le_of_ble_eq_true rfl) (⟨(bI_t (show ¬ (pIn x (σ.1 0) ∧ pIn y (σ.1 2)) from fun q => c_6 q.1)).symm, by rw [if_neg (fun q : (pIn x (σ.1 0) ∧ pIn y (σ.1 2)) => c_6 q.1)]⟩)
  · skip
    refine zg_aload_n X dX7_isNone_9 rfl ?_
    refine zg_iload_n X dX7_isNone_10 rfl ?_
    refine zg_callVi X (k_X7_isRight l D ad T _ hB0 _) zFr.rf gX7_isNone_X7_isRight rfl rfl rfl qv_X7_isRight rfl ⟨Nat.le_of_ble_eq_true rfl, Nat.le_of_ble_eq_true rfl⟩ (q0 := 0) (ci := 9) rfl rfl rfl (Nat.le_of_ble_eq_true rfl) ⟨Nat.le_of_ble_eq_true rfl, Nat.le_of_ble_eq_true rfl⟩ dX7_isNone_11 (fun r w1 hz9 => ?_)
    obtain ⟨rfl, rfl⟩ := hz9
    refine zg_if_eqb X dX7_isNone_14 (tgt := 21) (by decide) (fun c_14 => ?_) (fun c_14 => ?_)
    · skip
      refine zg_iconst X (v := 1) dX7_isNone_21 (by decide) ?_
      refine rp_M_thrown X f7 l85 dX7_isNone_22 ?_
      refine zg_aload_n X dX7_isNone_25 rfl ?_
      refine rg_M_thrown X f7 l85 dX7_isNone_26 ?_
      refine zg_top (v' := 1) rfl ?_
      refine zg_if_le X dX7_isNone_29 (tgt := 36) (by decide) (fun q => absurd q (by decide)) (fun _ => ?_)
      refine zg_iconst X (v := 1) dX7_isNone_32 (by decide) ?_
      refine zg_goto X dX7_isNone_33 (tgt := 37) (by decide) ?_
      exact zg_nret X hr (rfl) dX7_isNone_37 (Nat.le_of_ble_eq_true rfl) (Nat.le_of_ble_eq_true rfl) (⟨(bI_t (show ¬ (pIn x (σ.1 0) ∧ pIn y (σ.1 2)) from fun q => c_14 q.2)).symm, by rw [if_neg (fun q : (pIn x (σ.1 0) ∧ pIn y (σ.1 2)) => c_14 q.2)]⟩)
    · skip
      refine zg_iconst X (v := 0) dX7_isNone_17 (by decide) ?_
      refine zg_goto X dX7_isNone_18 (tgt := 22) (by decide) ?_
      refine rp_M_thrown X f7 l85 dX7_isNone_22 ?_
      refine zg_aload_n X dX7_isNone_25 rfl ?_
      refine rg_M_thrown X f7 l85 dX7_isNone_26 ?_
      refine zg_top (v' := 0) rfl ?_
      refine zg_if_le X dX7_isNone_29 (tgt := 36) (by decide) (fun _ => ?_) (fun q => absurd q (by decide))
      refine zg_iconst X (v := 0) dX7_isNone_36 (by decide) ?_
      exact zg_nret X hr (rfl) dX7_isNone_37 (Nat.le_of_ble_eq_true rfl) (Nat.le_of_ble_eq_true rfl) (⟨(bI_f (fun q : ¬ (pIn x (σ.1 0) ∧ pIn y (σ.1 2)) => q (And.intro c_6 c_14))).symm, by rw [if_pos (And.intro c_6 c_14)]⟩)

set_option maxHeartbeats 4000000 in
set_option maxRecDepth 100000 in
theorem k_X7_inside (l : Launch) (D : va_G) (ad : Nat → Nat) (T : Nat → ClassId) (σ : ZS) (hB0 : zBd σ) (g : Nat) : zM l yX7_inside wsX7_inside ({ frames := 1, cells := 0, slots := 0, locals := 21 }) D (zT T) [.ref (ad 0), .int (nI g)] (wM ad T σ) 0 0 (qI D (zT T) (fun v0 w => v0 = insI σ g ∧ w = wM ad T (σ))) := by
  have hB1 := hB0
  obtain ⟨b0, b1, b2, b3, b4, b5⟩ := hB1
  refine zg_of (cc := cX7_inside) (maxL := 5) (ret := (some .int)) (by decide) rfl (Nat.le_of_ble_eq_true rfl) (fun p e s m below meth c A hin hr X => ?_)
  have X : zC p s m _ meth c cX7_inside 5 wsX7_inside RX7 D (zT T) A := X
  have f7 : ∀ w ∈ u_ws RX7 TX7 37, w ∈ wsX7_inside := by decide +kernel
  have l25 : Cond.fieldLink RX7 25 "RecertifyModel" "nested" "[I" ∈ wsX7_inside := by decide +kernel
  have l99 : Cond.fieldLink RX7 99 "RecertifyModel" "groups" "I" ∈ wsX7_inside := by decide +kernel
  refine zg_iconst X (v := 1) dX7_inside_0 (by decide) ?_
  refine zg_iload_n X dX7_inside_1 rfl ?_
  refine zg_ishl X dX7_inside_2 ?_
  refine zg_istore_n X dX7_inside_3 (by decide) ?_
  refine zg_iconst X (v := 0) dX7_inside_4 (by decide) ?_
  refine zg_istore_n X dX7_inside_5 (by decide) ?_
  have LP6 : ∀ (fu : Nat) (i : Nat) (acc : Int32), σ.1 1 + 1 ≤ i + fu → i ≤ σ.1 1 → acc = fN (fun _ acc => belowR σ acc) (bt1 g) i → zG p l e (headSpec wsX7_inside ({ frames := 1, cells := 0, slots := 0, locals := 21 })).room s m [.ref (ad 0), .int (nI g)].toArray below meth c D 5 A 0 0 (MQ below (qI D (zT T) (fun v0 w => v0 = insI σ g ∧ w = wM ad T (σ)) A) [.ref (ad 0), .int (nI g)].toArray s 0 0 A) (wM ad T σ) 6 [(0, .ref (ad 0)), (2, .int acc), (3, .int (nI i))] [] := by
    intro fu
    induction fu with
    | zero => intro i acc hfu hii _; exact absurd hfu (by omega)
    | succ fu ih6 =>
      intro i acc hfu hii hacc
      refine zg_iload_n X dX7_inside_6 rfl ?_
      refine zg_aload_n X dX7_inside_7 rfl ?_
      refine rg_M_groups X f7 l99 dX7_inside_8 ?_
      refine zg_icmpn_ge X dX7_inside_11 (tgt := 61) (by decide) (a := i) (b := σ.1 1) (by omega) (by omega) (fun c_11 => ?_) (fun c_11 => ?_)
      · skip
        refine zg_iload_n X dX7_inside_61 rfl ?_
        exact zg_iret X hr dX7_inside_62 (Nat.le_of_ble_eq_true rfl) (Nat.le_of_ble_eq_true rfl) (⟨by rw [hacc, insI, show i = σ.1 1 by omega], rfl⟩)
      · skip
        refine zg_iconst X (v := 0) dX7_inside_14 (by decide) ?_
        refine zg_istore X dX7_inside_15 (by decide) ?_
        have LP17 : ∀ (fu : Nat) (j : Nat) (f2 : Int32), σ.1 1 + 1 ≤ j + fu → j ≤ σ.1 1 → f2 = fN (belowF σ) acc j → zG p l e (headSpec wsX7_inside ({ frames := 1, cells := 0, slots := 0, locals := 21 })).room s m [.ref (ad 0), .int (nI g)].toArray below meth c D 5 A 0 0 (MQ below (qI D (zT T) (fun v0 w => v0 = insI σ g ∧ w = wM ad T (σ)) A) [.ref (ad 0), .int (nI g)].toArray s 0 0 A) (wM ad T σ) 17 [(0, .ref (ad 0)), (2, .int f2), (3, .int (nI i)), (4, .int (nI j))] [] := by
          intro fu
          induction fu with
          | zero => intro j f2 hfu hij _; exact absurd hfu (by omega)
          | succ fu ih17 =>
            intro j f2 hfu hij hf2
            refine zg_iload X dX7_inside_17 rfl ?_
            refine zg_aload_n X dX7_inside_19 rfl ?_
            refine rg_M_groups X f7 l99 dX7_inside_20 ?_
            refine zg_icmpn_ge X dX7_inside_23 (tgt := 55) (by decide) (a := j) (b := σ.1 1) (by omega) (by omega) (fun c_23 => ?_) (fun c_23 => ?_)
            · skip
              refine zg_iinc1 X dX7_inside_55 (by decide) rfl ?_
              refine zg_goto X dX7_inside_58 (tgt := 6) (by decide) ?_
              exact zg_lv (by exact ⟨rfl, rfl, rfl, trivial⟩) (ih6 (i + 1) _ (by omega) (by omega) (by rw [fN, ← hacc, hf2, belowR, show j = σ.1 1 by omega]))
            · skip
              refine zg_iload_n X dX7_inside_26 rfl ?_
              refine zg_iload_n X dX7_inside_27 rfl ?_
              refine zg_iload X dX7_inside_28 rfl ?_
              refine zg_callSi X (k_X7_has l D ad T _ _ j (by omega)) zFr.rf gX7_inside_X7_has rfl rfl rfl qd_X7_has rfl ⟨Nat.le_of_ble_eq_true rfl, Nat.le_of_ble_eq_true rfl⟩ rfl (Nat.le_of_ble_eq_true rfl) ⟨Nat.le_of_ble_eq_true rfl, Nat.le_of_ble_eq_true rfl⟩ dX7_inside_30 (fun r w1 hz9 => ?_)
              obtain ⟨rfl, rfl⟩ := hz9
              refine zg_if_eqb X dX7_inside_33 (tgt := 46) (by decide) (fun c_33 => ?_) (fun c_33 => ?_)
              · skip
                refine zg_iconst X (v := 0) dX7_inside_46 (by decide) ?_
                refine zg_ior X dX7_inside_47 ?_
                refine zg_istore_n X dX7_inside_48 (by decide) ?_
                refine zg_iinc1 X dX7_inside_49 (by decide) rfl ?_
                refine zg_goto X dX7_inside_52 (tgt := 17) (by decide) ?_
                exact zg_lv (by exact ⟨rfl, rfl, rfl, rfl, trivial⟩) (ih17 (j + 1) _ (by omega) (by omega) (by rw [fN, ← hf2, belowF, if_neg c_33, or0]))
              · skip
                refine zg_aload_n X dX7_inside_36 rfl ?_
                refine rg_M_nested X f7 l25 dX7_inside_37 ?_
                refine zg_iload X dX7_inside_40 rfl ?_
                refine rlM_nested X (by omega) dX7_inside_42 ?_
                refine zg_goto X dX7_inside_43 (tgt := 47) (by decide) ?_
                refine zg_ior X dX7_inside_47 ?_
                refine zg_istore_n X dX7_inside_48 (by decide) ?_
                refine zg_iinc1 X dX7_inside_49 (by decide) rfl ?_
                refine zg_goto X dX7_inside_52 (tgt := 17) (by decide) ?_
                exact zg_lv (by exact ⟨rfl, rfl, rfl, rfl, trivial⟩) (ih17 (j + 1) _ (by omega) (by omega) (by rw [fN, ← hf2, belowF, if_pos c_33]))
        exact zg_lv (by exact ⟨rfl, rfl, rfl, rfl, trivial⟩) (LP17 (σ.1 1 + 1) 0 _ (by omega) (by omega) rfl)
  exact zg_lv (by exact ⟨rfl, rfl, rfl, trivial⟩) (LP6 (σ.1 1 + 1) 0 _ (by omega) (by omega) rfl)

set_option maxHeartbeats 4000000 in
set_option maxRecDepth 100000 in
theorem k_X7_membersOf (l : Launch) (D : va_G) (ad : Nat → Nat) (T : Nat → ClassId) (σ : ZS) (hI : zI σ) (g : Nat) (hg : g < σ.1 1) : zM l yX7_membersOf wsX7_membersOf ({ frames := 2, cells := 0, slots := 0, locals := 45 }) D (zT T) [.ref (ad 0), .int (nI g)] (wM ad T σ) 0 0 (qI D (zT T) (fun v0 w => v0 = memI σ g ∧ w = wM ad T (σ))) := by
  have hB0 := hI.bd
  obtain ⟨b0, b1, b2, b3, b4, b5⟩ := hI.bd
  refine zg_of (cc := cX7_membersOf) (maxL := 5) (ret := (some .int)) (by decide) rfl (Nat.le_of_ble_eq_true rfl) (fun p e s m below meth c A hin hr X => ?_)
  have X : zC p s m _ meth c cX7_membersOf 5 wsX7_membersOf RX7 D (zT T) A := X
  have f7 : ∀ w ∈ u_ws RX7 TX7 37, w ∈ wsX7_membersOf := by decide +kernel
  have l22 : Cond.fieldLink RX7 22 "RecertifyModel" "direct" "[I" ∈ wsX7_membersOf := by decide +kernel
  have l99 : Cond.fieldLink RX7 99 "RecertifyModel" "groups" "I" ∈ wsX7_membersOf := by decide +kernel
  refine zg_aload_n X dX7_membersOf_0 rfl ?_
  refine zg_iload_n X dX7_membersOf_1 rfl ?_
  refine zg_callVi X (k_X7_inside l D ad T _ hB0 g) zFr.rf gX7_membersOf_X7_inside rfl rfl rfl qv_X7_inside rfl ⟨Nat.le_of_ble_eq_true rfl, Nat.le_of_ble_eq_true rfl⟩ (q0 := 0) (ci := 9) rfl rfl rfl (Nat.le_of_ble_eq_true rfl) ⟨Nat.le_of_ble_eq_true rfl, Nat.le_of_ble_eq_true rfl⟩ dX7_membersOf_2 (fun r w1 hz9 => ?_)
  obtain ⟨rfl, rfl⟩ := hz9
  refine zg_top (insI_eq hI hg) ?_
  refine zg_istore_n X dX7_membersOf_5 (by decide) ?_
  refine zg_iconst X (v := 0) dX7_membersOf_6 (by decide) ?_
  refine zg_istore_n X dX7_membersOf_7 (by decide) ?_
  refine zg_iconst X (v := 0) dX7_membersOf_8 (by decide) ?_
  refine zg_istore X dX7_membersOf_9 (by decide) ?_
  have LP11 : ∀ (fu : Nat) (i : Nat) (acc : Int32), σ.1 1 + 1 ≤ i + fu → i ≤ σ.1 1 → acc = fN (memF σ (belowI σ g)) 0 i → zG p l e (headSpec wsX7_membersOf ({ frames := 2, cells := 0, slots := 0, locals := 45 })).room s m [.ref (ad 0), .int (nI g)].toArray below meth c D 5 A 0 0 (MQ below (qI D (zT T) (fun v0 w => v0 = memI σ g ∧ w = wM ad T (σ)) A) [.ref (ad 0), .int (nI g)].toArray s 0 0 A) (wM ad T σ) 11 [(0, .ref (ad 0)), (2, .int (belowI σ g)), (3, .int acc), (4, .int (nI i))] [] := by
    intro fu
    induction fu with
    | zero => intro i acc hfu hii _; exact absurd hfu (by omega)
    | succ fu ih11 =>
      intro i acc hfu hii hacc
      refine zg_iload X dX7_membersOf_11 rfl ?_
      refine zg_aload_n X dX7_membersOf_13 rfl ?_
      refine rg_M_groups X f7 l99 dX7_membersOf_14 ?_
      refine zg_icmpn_ge X dX7_membersOf_17 (tgt := 49) (by decide) (a := i) (b := σ.1 1) (by omega) (by omega) (fun c_17 => ?_) (fun c_17 => ?_)
      · skip
        refine zg_iload_n X dX7_membersOf_49 rfl ?_
        exact zg_iret X hr dX7_membersOf_50 (Nat.le_of_ble_eq_true rfl) (Nat.le_of_ble_eq_true rfl) (⟨by rw [hacc, memI, show i = σ.1 1 by omega], rfl⟩)
      · skip
        refine zg_iload_n X dX7_membersOf_20 rfl ?_
        refine zg_iload_n X dX7_membersOf_21 rfl ?_
        refine zg_iload X dX7_membersOf_22 rfl ?_
        refine zg_callSi X (k_X7_has l D ad T _ _ i (by omega)) zFr.rf gX7_membersOf_X7_has rfl rfl rfl qd_X7_has rfl ⟨Nat.le_of_ble_eq_true rfl, Nat.le_of_ble_eq_true rfl⟩ rfl (Nat.le_of_ble_eq_true rfl) ⟨Nat.le_of_ble_eq_true rfl, Nat.le_of_ble_eq_true rfl⟩ dX7_membersOf_24 (fun r w1 hz9 => ?_)
        obtain ⟨rfl, rfl⟩ := hz9
        refine zg_if_eqb X dX7_membersOf_27 (tgt := 40) (by decide) (fun c_27 => ?_) (fun c_27 => ?_)
        · skip
          refine zg_iconst X (v := 0) dX7_membersOf_40 (by decide) ?_
          refine zg_ior X dX7_membersOf_41 ?_
          refine zg_istore_n X dX7_membersOf_42 (by decide) ?_
          refine zg_iinc1 X dX7_membersOf_43 (by decide) rfl ?_
          refine zg_goto X dX7_membersOf_46 (tgt := 11) (by decide) ?_
          exact zg_lv (by exact ⟨rfl, rfl, rfl, rfl, trivial⟩) (ih11 (i + 1) _ (by omega) (by omega) (by rw [fN, ← hacc, memF, if_neg c_27, or0]))
        · skip
          refine zg_aload_n X dX7_membersOf_30 rfl ?_
          refine rg_M_direct X f7 l22 dX7_membersOf_31 ?_
          refine zg_iload X dX7_membersOf_34 rfl ?_
          refine rlM_direct X (by omega) dX7_membersOf_36 ?_
          refine zg_goto X dX7_membersOf_37 (tgt := 41) (by decide) ?_
          refine zg_ior X dX7_membersOf_41 ?_
          refine zg_istore_n X dX7_membersOf_42 (by decide) ?_
          refine zg_iinc1 X dX7_membersOf_43 (by decide) rfl ?_
          refine zg_goto X dX7_membersOf_46 (tgt := 11) (by decide) ?_
          exact zg_lv (by exact ⟨rfl, rfl, rfl, rfl, trivial⟩) (ih11 (i + 1) _ (by omega) (by omega) (by rw [fN, ← hacc, memF, if_pos c_27] <;> rfl))
  exact zg_lv (by exact ⟨rfl, rfl, rfl, rfl, trivial⟩) (LP11 (σ.1 1 + 1) 0 _ (by omega) (by omega) rfl)

set_option maxHeartbeats 4000000 in
set_option maxRecDepth 100000 in
theorem k_X7_reachedBy (l : Launch) (D : va_G) (ad : Nat → Nat) (T : Nat → ClassId) (σ : ZS) (hI : zI σ) (g : Nat) (hg : g < σ.1 3) : zM l yX7_reachedBy wsX7_reachedBy ({ frames := 3, cells := 0, slots := 0, locals := 69 }) D (zT T) [.ref (ad 0), .int (nI g)] (wM ad T σ) 0 0 (qI D (zT T) (fun v0 w => v0 = reachI σ g ∧ w = wM ad T (σ))) := by
  have hB0 := hI.bd
  obtain ⟨b0, b1, b2, b3, b4, b5⟩ := hI.bd
  refine zg_of (cc := cX7_reachedBy) (maxL := 2) (ret := (some .int)) (by decide) rfl (Nat.le_of_ble_eq_true rfl) (fun p e s m below meth c A hin hr X => ?_)
  have X : zC p s m _ meth c cX7_reachedBy 2 wsX7_reachedBy RX7 D (zT T) A := X
  have f7 : ∀ w ∈ u_ws RX7 TX7 37, w ∈ wsX7_reachedBy := by decide +kernel
  have l40 : Cond.fieldLink RX7 40 "RecertifyModel" "targets" "[I" ∈ wsX7_reachedBy := by decide +kernel
  have l53 : Cond.fieldLink RX7 53 "RecertifyModel" "isToGroup" "[Z" ∈ wsX7_reachedBy := by decide +kernel
  refine zg_aload_n X dX7_reachedBy_0 rfl ?_
  refine rg_M_isToGroup X f7 l53 dX7_reachedBy_1 ?_
  refine zg_iload_n X dX7_reachedBy_4 rfl ?_
  refine rlM_isToGroup X (by omega) dX7_reachedBy_5 ?_
  refine zg_if_eq X dX7_reachedBy_6 (tgt := 22) (by decide) (fun c_6 => ?_) (fun c_6 => ?_)
  · skip
    refine zg_iconst X (v := 1) dX7_reachedBy_22 (by decide) ?_
    refine zg_aload_n X dX7_reachedBy_23 rfl ?_
    refine rg_M_targets X f7 l40 dX7_reachedBy_24 ?_
    refine zg_iload_n X dX7_reachedBy_27 rfl ?_
    refine rlM_targets X (by omega) dX7_reachedBy_28 ?_
    obtain ⟨j, hj, e21, e25⟩ := hI.mper g hg c_6
    refine zg_top e25 ?_
    refine zg_ishl X dX7_reachedBy_29 ?_
    exact zg_iret X hr dX7_reachedBy_30 (Nat.le_of_ble_eq_true rfl) (Nat.le_of_ble_eq_true rfl) (⟨by rw [reachI, if_neg (by rw [e21]; exact nI_m1 (by omega)), e21, ix_nI (by omega)]; rfl, rfl⟩)
  · skip
    refine zg_aload_n X dX7_reachedBy_9 rfl ?_
    refine zg_aload_n X dX7_reachedBy_10 rfl ?_
    refine rg_M_targets X f7 l40 dX7_reachedBy_11 ?_
    refine zg_iload_n X dX7_reachedBy_14 rfl ?_
    refine rlM_targets X (by omega) dX7_reachedBy_15 ?_
    obtain ⟨j, hj, e21, e22, e25⟩ := hI.mgrp g hg c_6
    refine zg_top e25 ?_
    refine zg_callVi X (k_X7_membersOf l D ad T _ hI j hj) zFr.rf gX7_reachedBy_X7_membersOf rfl rfl rfl qv_X7_membersOf rfl ⟨Nat.le_of_ble_eq_true rfl, Nat.le_of_ble_eq_true rfl⟩ (q0 := 0) (ci := 9) rfl rfl rfl (Nat.le_of_ble_eq_true rfl) ⟨Nat.le_of_ble_eq_true rfl, Nat.le_of_ble_eq_true rfl⟩ dX7_reachedBy_16 (fun r w1 hz9 => ?_)
    obtain ⟨rfl, rfl⟩ := hz9
    refine zg_goto X dX7_reachedBy_19 (tgt := 30) (by decide) ?_
    exact zg_iret X hr dX7_reachedBy_30 (Nat.le_of_ble_eq_true rfl) (Nat.le_of_ble_eq_true rfl) (⟨by rw [reachI, if_pos e21, e22, if_pos (pIn_nI (by omega) hj), ix_nI (by omega), hI.all j hj], rfl⟩)

set_option maxHeartbeats 4000000 in
set_option maxRecDepth 100000 in
theorem k_X7_holdersBut (l : Launch) (D : va_G) (ad : Nat → Nat) (T : Nat → ClassId) (σ : ZS) (hI : zI σ) (r : Nat) (hr0 : r < 10) (x : Int32) : zM l yX7_holdersBut wsX7_holdersBut ({ frames := 4, cells := 0, slots := 0, locals := 90 }) D (zT T) [.ref (ad 0), .int (nI r), .int x] (wM ad T σ) 0 0 (qI D (zT T) (fun v0 w => v0 = holdI σ r x ∧ w = wM ad T (σ))) := by
  have hB0 := hI.bd
  obtain ⟨b0, b1, b2, b3, b4, b5⟩ := hI.bd
  refine zg_of (cc := cX7_holdersBut) (maxL := 5) (ret := (some .int)) (by decide) rfl (Nat.le_of_ble_eq_true rfl) (fun p e s m below meth c A hin hr X => ?_)
  have X : zC p s m _ meth c cX7_holdersBut 5 wsX7_holdersBut RX7 D (zT T) A := X
  have f7 : ∀ w ∈ u_ws RX7 TX7 37, w ∈ wsX7_holdersBut := by decide +kernel
  have l105 : Cond.fieldLink RX7 105 "RecertifyModel" "grants" "I" ∈ wsX7_holdersBut := by decide +kernel
  have l34 : Cond.fieldLink RX7 34 "RecertifyModel" "denied" "[I" ∈ wsX7_holdersBut := by decide +kernel
  have l37 : Cond.fieldLink RX7 37 "RecertifyModel" "rightOf" "[I" ∈ wsX7_holdersBut := by decide +kernel
  have l56 : Cond.fieldLink RX7 56 "RecertifyModel" "states" "[C" ∈ wsX7_holdersBut := by decide +kernel
  refine zg_iconst X (v := 0) dX7_holdersBut_0 (by decide) ?_
  refine zg_istore_n X dX7_holdersBut_1 (by decide) ?_
  refine zg_iconst X (v := 0) dX7_holdersBut_2 (by decide) ?_
  refine zg_istore X dX7_holdersBut_3 (by decide) ?_
  have LP5 : ∀ (fu : Nat) (i : Nat) (acc : Int32), σ.1 3 + 1 ≤ i + fu → i ≤ σ.1 3 → acc = fN (holdF σ r x) 0 i → zG p l e (headSpec wsX7_holdersBut ({ frames := 4, cells := 0, slots := 0, locals := 90 })).room s m [.ref (ad 0), .int (nI r), .int x].toArray below meth c D 5 A 0 0 (MQ below (qI D (zT T) (fun v0 w => v0 = holdI σ r x ∧ w = wM ad T (σ)) A) [.ref (ad 0), .int (nI r), .int x].toArray s 0 0 A) (wM ad T σ) 5 [(0, .ref (ad 0)), (1, .int (nI r)), (2, .int x), (3, .int acc), (4, .int (nI i))] [] := by
    intro fu
    induction fu with
    | zero => intro i acc hfu hii _; exact absurd hfu (by omega)
    | succ fu ih5 =>
      intro i acc hfu hii hacc
      refine zg_iload X dX7_holdersBut_5 rfl ?_
      refine zg_aload_n X dX7_holdersBut_7 rfl ?_
      refine rg_M_grants X f7 l105 dX7_holdersBut_8 ?_
      refine zg_icmpn_ge X dX7_holdersBut_11 (tgt := 62) (by decide) (a := i) (b := σ.1 3) (by omega) (by omega) (fun c_11 => ?_) (fun c_11 => ?_)
      · skip
        refine zg_iload_n X dX7_holdersBut_62 rfl ?_
        refine zg_aload_n X dX7_holdersBut_63 rfl ?_
        refine rg_M_denied X f7 l34 dX7_holdersBut_64 ?_
        refine zg_iload_n X dX7_holdersBut_67 rfl ?_
        refine rlM_denied X (by omega) dX7_holdersBut_68 ?_
        refine zg_iconst X (v := (-1)) dX7_holdersBut_69 (by decide) ?_
        refine zg_ixor X dX7_holdersBut_70 ?_
        refine zg_iand X dX7_holdersBut_71 ?_
        exact zg_iret X hr dX7_holdersBut_72 (Nat.le_of_ble_eq_true rfl) (Nat.le_of_ble_eq_true rfl) (⟨by rw [hacc, holdI, show i = σ.1 3 by omega], rfl⟩)
      · skip
        refine zg_iload_n X dX7_holdersBut_14 rfl ?_
        refine zg_aload_n X dX7_holdersBut_15 rfl ?_
        refine rg_M_states X f7 l56 dX7_holdersBut_16 ?_
        refine zg_iload X dX7_holdersBut_19 rfl ?_
        refine rlM_states X (by omega) dX7_holdersBut_21 ?_
        refine zg_bipush X (v := 120) dX7_holdersBut_22 (by decide) ?_
        refine zg_icmp_eq X dX7_holdersBut_24 (tgt := 53) (by decide) (fun c_24 => ?_) (fun c_24 => ?_)
        · skip
          refine zg_iconst X (v := 0) dX7_holdersBut_53 (by decide) ?_
          refine zg_ior X dX7_holdersBut_54 ?_
          refine zg_istore_n X dX7_holdersBut_55 (by decide) ?_
          refine zg_iinc1 X dX7_holdersBut_56 (by decide) rfl ?_
          refine zg_goto X dX7_holdersBut_59 (tgt := 5) (by decide) ?_
          exact zg_lv (by exact ⟨rfl, rfl, rfl, rfl, rfl, trivial⟩) (ih5 (i + 1) _ (by omega) (by omega) (by rw [fN, ← hacc, holdF, or0]; exact (if_neg (fun q => q.2.2 c_24)).symm))
        · skip
          refine zg_aload_n X dX7_holdersBut_27 rfl ?_
          refine rg_M_rightOf X f7 l37 dX7_holdersBut_28 ?_
          refine zg_iload X dX7_holdersBut_31 rfl ?_
          refine rlM_gRight X (by omega) dX7_holdersBut_33 ?_
          refine zg_iload_n X dX7_holdersBut_34 rfl ?_
          refine zg_icmp_ne X dX7_holdersBut_35 (tgt := 53) (by decide) (fun c_35 => ?_) (fun c_35 => ?_)
          · skip
            refine zg_iconst X (v := 0) dX7_holdersBut_53 (by decide) ?_
            refine zg_ior X dX7_holdersBut_54 ?_
            refine zg_istore_n X dX7_holdersBut_55 (by decide) ?_
            refine zg_iinc1 X dX7_holdersBut_56 (by decide) rfl ?_
            refine zg_goto X dX7_holdersBut_59 (tgt := 5) (by decide) ?_
            exact zg_lv (by exact ⟨rfl, rfl, rfl, rfl, rfl, trivial⟩) (ih5 (i + 1) _ (by omega) (by omega) (by rw [fN, ← hacc, holdF, or0]; exact (if_neg (fun q => c_35 q.2.1)).symm))
          · skip
            refine zg_iload X dX7_holdersBut_38 rfl ?_
            refine zg_iload_n X dX7_holdersBut_40 rfl ?_
            refine zg_icmp_eq X dX7_holdersBut_41 (tgt := 53) (by decide) (fun c_41 => ?_) (fun c_41 => ?_)
            · skip
              refine zg_iconst X (v := 0) dX7_holdersBut_53 (by decide) ?_
              refine zg_ior X dX7_holdersBut_54 ?_
              refine zg_istore_n X dX7_holdersBut_55 (by decide) ?_
              refine zg_iinc1 X dX7_holdersBut_56 (by decide) rfl ?_
              refine zg_goto X dX7_holdersBut_59 (tgt := 5) (by decide) ?_
              exact zg_lv (by exact ⟨rfl, rfl, rfl, rfl, rfl, trivial⟩) (ih5 (i + 1) _ (by omega) (by omega) (by rw [fN, ← hacc, holdF, or0]; exact (if_neg (fun q => q.1 c_41)).symm))
            · skip
              refine zg_aload_n X dX7_holdersBut_44 rfl ?_
              refine zg_iload X dX7_holdersBut_45 rfl ?_
              refine zg_callVi X (k_X7_reachedBy l D ad T _ hI i (by omega)) zFr.rf gX7_holdersBut_X7_reachedBy rfl rfl rfl qv_X7_reachedBy rfl ⟨Nat.le_of_ble_eq_true rfl, Nat.le_of_ble_eq_true rfl⟩ (q0 := 0) (ci := 9) rfl rfl rfl (Nat.le_of_ble_eq_true rfl) ⟨Nat.le_of_ble_eq_true rfl, Nat.le_of_ble_eq_true rfl⟩ dX7_holdersBut_47 (fun r w1 hz9 => ?_)
              obtain ⟨rfl, rfl⟩ := hz9
              refine zg_goto X dX7_holdersBut_50 (tgt := 54) (by decide) ?_
              refine zg_ior X dX7_holdersBut_54 ?_
              refine zg_istore_n X dX7_holdersBut_55 (by decide) ?_
              refine zg_iinc1 X dX7_holdersBut_56 (by decide) rfl ?_
              refine zg_goto X dX7_holdersBut_59 (tgt := 5) (by decide) ?_
              exact zg_lv (by exact ⟨rfl, rfl, rfl, rfl, rfl, trivial⟩) (ih5 (i + 1) _ (by omega) (by omega) (by rw [fN, ← hacc, holdF]; exact (if_pos ⟨c_41, c_35, c_24⟩).symm))
  exact zg_lv (by exact ⟨rfl, rfl, rfl, rfl, rfl, trivial⟩) (LP5 (σ.1 3 + 1) 0 _ (by omega) (by omega) rfl)

set_option maxHeartbeats 4000000 in
set_option maxRecDepth 100000 in
theorem k_X7_isHolding (l : Launch) (D : va_G) (ad : Nat → Nat) (T : Nat → ClassId) (σ : ZS) (hI : zI σ) (q r : Nat) (hr0 : r < 10) (hq0 : q < 32) : zM l yX7_isHolding wsX7_isHolding ({ frames := 5, cells := 0, slots := 0, locals := 114 }) D (zT T) [.ref (ad 0), .int (nI q), .int (nI r)] (wM ad T σ) 0 0 (qI D (zT T) (fun v0 w => v0 = bI (hB (holdI σ r (-1)) q) ∧ w = wM ad T (σ))) := by
  have hB0 := hI.bd
  obtain ⟨b0, b1, b2, b3, b4, b5⟩ := hI.bd
  refine zg_of (cc := cX7_isHolding) (maxL := 3) (ret := (some .boolean)) (by decide) rfl (Nat.le_of_ble_eq_true rfl) (fun p e s m below meth c A hin hr X => ?_)
  have X : zC p s m _ meth c cX7_isHolding 3 wsX7_isHolding RX7 D (zT T) A := X
  refine zg_aload_n X dX7_isHolding_0 rfl ?_
  refine zg_iload_n X dX7_isHolding_1 rfl ?_
  refine zg_iconst X (v := (-1)) dX7_isHolding_2 (by decide) ?_
  refine zg_callVi X (k_X7_holdersBut l D ad T _ hI r hr0 (-1)) zFr.rf gX7_isHolding_X7_holdersBut rfl rfl rfl qv_X7_holdersBut rfl ⟨Nat.le_of_ble_eq_true rfl, Nat.le_of_ble_eq_true rfl⟩ (q0 := 0) (ci := 9) rfl rfl rfl (Nat.le_of_ble_eq_true rfl) ⟨Nat.le_of_ble_eq_true rfl, Nat.le_of_ble_eq_true rfl⟩ dX7_isHolding_3 (fun r w1 hz9 => ?_)
  obtain ⟨rfl, rfl⟩ := hz9
  refine zg_iload_n X dX7_isHolding_6 rfl ?_
  refine zg_callSi X (k_X7_has l D ad T _ _ q hq0) zFr.rf gX7_isHolding_X7_has rfl rfl rfl qd_X7_has rfl ⟨Nat.le_of_ble_eq_true rfl, Nat.le_of_ble_eq_true rfl⟩ rfl (Nat.le_of_ble_eq_true rfl) ⟨Nat.le_of_ble_eq_true rfl, Nat.le_of_ble_eq_true rfl⟩ dX7_isHolding_7 (fun r w1 hz9 => ?_)
  obtain ⟨rfl, rfl⟩ := hz9
  exact zg_nret X hr (bI_nar) dX7_isHolding_10 (Nat.le_of_ble_eq_true rfl) (Nat.le_of_ble_eq_true rfl) (⟨rfl, rfl⟩)

set_option maxHeartbeats 4000000 in
set_option maxRecDepth 100000 in
theorem k_X7_riskBy (l : Launch) (D : va_G) (ad : Nat → Nat) (T : Nat → ClassId) (σ : ZS) (hI : zI σ) (q r : Nat) (hq0 : q < σ.1 0) (hr0 : r < 10) : zM l yX7_riskBy wsX7_riskBy ({ frames := 5, cells := 0, slots := 0, locals := 114 }) D (zT T) [.ref (ad 0), .int (nI q), .int (nI r)] (wM ad T σ) 0 0 (qI D (zT T) (fun v0 w => v0 = rateI σ r q (holdI σ r (-1)) ∧ w = wM ad T (σ))) := by
  have hB0 := hI.bd
  obtain ⟨b0, b1, b2, b3, b4, b5⟩ := hI.bd
  refine zg_of (cc := cX7_riskBy) (maxL := 7) (ret := (some .int)) (by decide) rfl (Nat.le_of_ble_eq_true rfl) (fun p e s m below meth c A hin hr X => ?_)
  have X : zC p s m _ meth c cX7_riskBy 7 wsX7_riskBy RX7 D (zT T) A := X
  have f7 : ∀ w ∈ u_ws RX7 TX7 37, w ∈ wsX7_riskBy := by decide +kernel
  have l28 : Cond.fieldLink RX7 28 "RecertifyModel" "sensitivities" "[I" ∈ wsX7_riskBy := by decide +kernel
  have l9 : Cond.fieldLink RX7 9 "RecertifyModel" "departments" "[I" ∈ wsX7_riskBy := by decide +kernel
  have l92 : Cond.fieldLink RX7 92 "RecertifyModel" "people" "I" ∈ wsX7_riskBy := by decide +kernel
  refine zg_iconst X (v := 0) dX7_riskBy_0 (by decide) ?_
  refine zg_istore_n X dX7_riskBy_1 (by decide) ?_
  refine zg_iconst X (v := 0) dX7_riskBy_2 (by decide) ?_
  refine zg_istore X dX7_riskBy_3 (by decide) ?_
  refine zg_aload_n X dX7_riskBy_5 rfl ?_
  refine zg_iload_n X dX7_riskBy_6 rfl ?_
  refine zg_iconst X (v := (-1)) dX7_riskBy_7 (by decide) ?_
  refine zg_callVi X (k_X7_holdersBut l D ad T _ hI r hr0 (-1)) zFr.rf gX7_riskBy_X7_holdersBut rfl rfl rfl qv_X7_holdersBut rfl ⟨Nat.le_of_ble_eq_true rfl, Nat.le_of_ble_eq_true rfl⟩ (q0 := 0) (ci := 9) rfl rfl rfl (Nat.le_of_ble_eq_true rfl) ⟨Nat.le_of_ble_eq_true rfl, Nat.le_of_ble_eq_true rfl⟩ dX7_riskBy_8 (fun r w1 hz9 => ?_)
  obtain ⟨rfl, rfl⟩ := hz9
  refine zg_istore X dX7_riskBy_11 (by decide) ?_
  refine zg_iconst X (v := 0) dX7_riskBy_13 (by decide) ?_
  refine zg_istore X dX7_riskBy_14 (by decide) ?_
  have LP16 : ∀ (fu : Nat) (i : Nat) (pk : Int32) (ot : Int32), σ.1 0 + 1 ≤ i + fu → i ≤ σ.1 0 → pk = fN (pkF σ q) 0 i → ot = fN (otF σ q (holdI σ r (-1))) 0 i → zG p l e (headSpec wsX7_riskBy ({ frames := 5, cells := 0, slots := 0, locals := 114 })).room s m [.ref (ad 0), .int (nI q), .int (nI r)].toArray below meth c D 7 A 0 0 (MQ below (qI D (zT T) (fun v0 w => v0 = rateI σ r q (holdI σ r (-1)) ∧ w = wM ad T (σ)) A) [.ref (ad 0), .int (nI q), .int (nI r)].toArray s 0 0 A) (wM ad T σ) 16 [(0, .ref (ad 0)), (1, .int (nI q)), (2, .int (nI r)), (3, .int pk), (4, .int ot), (5, .int (holdI σ r (-1))), (6, .int (nI i))] [] := by
    intro fu
    induction fu with
    | zero => intro i pk ot hfu hii _ _; exact absurd hfu (by omega)
    | succ fu ih16 =>
      intro i pk ot hfu hii hpk hot
      refine zg_iload X dX7_riskBy_16 rfl ?_
      refine zg_aload_n X dX7_riskBy_18 rfl ?_
      refine rg_M_people X f7 l92 dX7_riskBy_19 ?_
      refine zg_icmpn_ge X dX7_riskBy_22 (tgt := 79) (by decide) (a := i) (b := σ.1 0) (by omega) (by omega) (fun c_22 => ?_) (fun c_22 => ?_)
      · skip
        have hpk9 : pk = bcnt (peersI σ q) := by rw [hpk, show i = σ.1 0 by omega]; exact zpk_eq hI hq0
        have hot9 : ot = bcnt (peersI σ q &&& (holdI σ r (-1) ^^^ -1)) := by rw [hot, show i = σ.1 0 by omega]; exact zot_eq hI hq0
        refine zg_iload_n X dX7_riskBy_79 rfl ?_
        refine zg_if_ne X dX7_riskBy_80 (tgt := 95) (by decide) (fun c_80 => ?_) (fun c_80 => ?_)
        · skip
          refine zg_bipush X (v := 100) dX7_riskBy_95 (by decide) ?_
          refine zg_aload_n X dX7_riskBy_97 rfl ?_
          refine rg_M_sensitivities X f7 l28 dX7_riskBy_98 ?_
          refine zg_iload_n X dX7_riskBy_101 rfl ?_
          refine rlM_sens X (by omega) dX7_riskBy_102 ?_
          refine zg_imul X dX7_riskBy_103 ?_
          refine zg_iload X dX7_riskBy_104 rfl ?_
          refine zg_imul X dX7_riskBy_106 ?_
          refine zg_iload_n X dX7_riskBy_107 rfl ?_
          refine zg_idiv X dX7_riskBy_108 c_80 ?_
          exact zg_iret X hr dX7_riskBy_109 (Nat.le_of_ble_eq_true rfl) (Nat.le_of_ble_eq_true rfl) (⟨by rw [rateI, if_neg (by rw [← hpk9]; exact c_80), hpk9, hot9], rfl⟩)
        · skip
          refine zg_bipush X (v := 100) dX7_riskBy_83 (by decide) ?_
          refine zg_aload_n X dX7_riskBy_85 rfl ?_
          refine rg_M_sensitivities X f7 l28 dX7_riskBy_86 ?_
          refine zg_iload_n X dX7_riskBy_89 rfl ?_
          refine rlM_sens X (by omega) dX7_riskBy_90 ?_
          refine zg_imul X dX7_riskBy_91 ?_
          refine zg_goto X dX7_riskBy_92 (tgt := 109) (by decide) ?_
          exact zg_iret X hr dX7_riskBy_109 (Nat.le_of_ble_eq_true rfl) (Nat.le_of_ble_eq_true rfl) (⟨by rw [rateI, if_pos (by rw [← hpk9]; exact c_80)], rfl⟩)
      · skip
        refine zg_iload X dX7_riskBy_25 rfl ?_
        refine zg_iload_n X dX7_riskBy_27 rfl ?_
        refine zg_icmpn_eq X dX7_riskBy_28 (tgt := 73) (by decide) (a := i) (b := q) (by omega) (by omega) (fun c_28 => ?_) (fun c_28 => ?_)
        · skip
          refine zg_iinc1 X dX7_riskBy_73 (by decide) rfl ?_
          refine zg_goto X dX7_riskBy_76 (tgt := 16) (by decide) ?_
          exact zg_lv (by exact ⟨rfl, rfl, rfl, rfl, rfl, rfl, rfl, trivial⟩) (ih16 (i + 1) _ _ (by omega) (by omega) (by rw [fN, ← hpk, pkF]; exact (if_neg (fun q => q.1 c_28)).symm) (by rw [fN, ← hot, otF]; exact (if_neg (fun q => q.1 c_28)).symm))
        · skip
          refine zg_aload_n X dX7_riskBy_31 rfl ?_
          refine rg_M_departments X f7 l9 dX7_riskBy_32 ?_
          refine zg_iload X dX7_riskBy_35 rfl ?_
          refine rlM_departments X (by omega) dX7_riskBy_37 ?_
          refine zg_aload_n X dX7_riskBy_38 rfl ?_
          refine rg_M_departments X f7 l9 dX7_riskBy_39 ?_
          refine zg_iload_n X dX7_riskBy_42 rfl ?_
          refine rlM_departments X (by omega) dX7_riskBy_43 ?_
          refine zg_icmp_eq X dX7_riskBy_44 (tgt := 50) (by decide) (fun c_44 => ?_) (fun c_44 => ?_)
          · skip
            refine zg_iinc X dX7_riskBy_50 (by decide) rfl (show _ + Int32.ofInt 1 = _ + 1 from rfl) ?_
            refine zg_iload X dX7_riskBy_53 rfl ?_
            refine zg_iload X dX7_riskBy_55 rfl ?_
            refine zg_iload X dX7_riskBy_57 rfl ?_
            refine zg_callSi X (k_X7_has l D ad T _ _ i (by omega)) zFr.rf gX7_riskBy_X7_has rfl rfl rfl qd_X7_has rfl ⟨Nat.le_of_ble_eq_true rfl, Nat.le_of_ble_eq_true rfl⟩ rfl (Nat.le_of_ble_eq_true rfl) ⟨Nat.le_of_ble_eq_true rfl, Nat.le_of_ble_eq_true rfl⟩ dX7_riskBy_59 (fun r w1 hz9 => ?_)
            obtain ⟨rfl, rfl⟩ := hz9
            refine zg_if_eqb X dX7_riskBy_62 (tgt := 69) (by decide) (fun c_62 => ?_) (fun c_62 => ?_)
            · skip
              refine zg_iconst X (v := 1) dX7_riskBy_69 (by decide) ?_
              refine zg_iadd X dX7_riskBy_70 ?_
              refine zg_istore X dX7_riskBy_71 (by decide) ?_
              refine zg_iinc1 X dX7_riskBy_73 (by decide) rfl ?_
              refine zg_goto X dX7_riskBy_76 (tgt := 16) (by decide) ?_
              exact zg_lv (by exact ⟨rfl, rfl, rfl, rfl, rfl, rfl, rfl, trivial⟩) (ih16 (i + 1) _ _ (by omega) (by omega) (by rw [fN, ← hpk, pkF]; exact (if_pos ⟨c_28, c_44⟩).symm) (by rw [fN, ← hot, otF, if_pos (And.intro c_28 c_44), if_neg c_62]))
            · skip
              refine zg_iconst X (v := 0) dX7_riskBy_65 (by decide) ?_
              refine zg_goto X dX7_riskBy_66 (tgt := 70) (by decide) ?_
              refine zg_iadd X dX7_riskBy_70 ?_
              refine zg_istore X dX7_riskBy_71 (by decide) ?_
              refine zg_iinc1 X dX7_riskBy_73 (by decide) rfl ?_
              refine zg_goto X dX7_riskBy_76 (tgt := 16) (by decide) ?_
              exact zg_lv (by exact ⟨rfl, rfl, rfl, rfl, rfl, rfl, rfl, trivial⟩) (ih16 (i + 1) _ _ (by omega) (by omega) (by rw [fN, ← hpk, pkF]; exact (if_pos ⟨c_28, c_44⟩).symm) (by rw [fN, ← hot, otF, if_pos (And.intro c_28 c_44), if_pos c_62, i32_add0]))
          · skip
            refine zg_goto X dX7_riskBy_47 (tgt := 73) (by decide) ?_
            refine zg_iinc1 X dX7_riskBy_73 (by decide) rfl ?_
            refine zg_goto X dX7_riskBy_76 (tgt := 16) (by decide) ?_
            exact zg_lv (by exact ⟨rfl, rfl, rfl, rfl, rfl, rfl, rfl, trivial⟩) (ih16 (i + 1) _ _ (by omega) (by omega) (by rw [fN, ← hpk, pkF]; exact (if_neg (fun q => c_44 q.2)).symm) (by rw [fN, ← hot, otF]; exact (if_neg (fun q => c_44 q.2)).symm))
  exact zg_lv (by exact ⟨rfl, rfl, rfl, rfl, rfl, rfl, rfl, trivial⟩) (LP16 (σ.1 0 + 1) 0 _ _ (by omega) (by omega) rfl rfl)

set_option maxHeartbeats 4000000 in
set_option maxRecDepth 100000 in
theorem k_X7_riskOfGrant (l : Launch) (D : va_G) (ad : Nat → Nat) (T : Nat → ClassId) (σ : ZS) (hI : zI σ) (g : Nat) (hg : g < σ.1 3) : zM l yX7_riskOfGrant wsX7_riskOfGrant ({ frames := 6, cells := 0, slots := 0, locals := 140 }) D (zT T) [.ref (ad 0), .int (nI g)] (wM ad T σ) 0 0 (qI D (zT T) (fun v0 w => v0 = rgI σ g ∧ w = wM ad T (σ))) := by
  have hB0 := hI.bd
  obtain ⟨b0, b1, b2, b3, b4, b5⟩ := hI.bd
  obtain ⟨r0, hr0, er⟩ := hI.gRt g hg
  refine zg_of (cc := cX7_riskOfGrant) (maxL := 5) (ret := (some .int)) (by decide) rfl (Nat.le_of_ble_eq_true rfl) (fun p e s m below meth c A hin hr X => ?_)
  have X : zC p s m _ meth c cX7_riskOfGrant 5 wsX7_riskOfGrant RX7 D (zT T) A := X
  have f7 : ∀ w ∈ u_ws RX7 TX7 37, w ∈ wsX7_riskOfGrant := by decide +kernel
  have l163 : Cond.methodLink RX7 163 Lib.Math.max.name ∈ wsX7_riskOfGrant := by decide +kernel
  have lmaxc : Cond.code Lib.Math.max.name Lib.Math.max.code 2 (some .int) ∈ wsX7_riskOfGrant := by decide +kernel
  have lmaxi : Cond.initialized "java/lang/Math" ∈ wsX7_riskOfGrant := by decide +kernel
  have lmaxs : Cond.static Lib.Math.max.name ∈ wsX7_riskOfGrant := by decide +kernel
  have l134 : Cond.fieldLink RX7 134 "RecertifyModel" "day" "I" ∈ wsX7_riskOfGrant := by decide +kernel
  have l37 : Cond.fieldLink RX7 37 "RecertifyModel" "rightOf" "[I" ∈ wsX7_riskOfGrant := by decide +kernel
  have l43 : Cond.fieldLink RX7 43 "RecertifyModel" "used" "[I" ∈ wsX7_riskOfGrant := by decide +kernel
  have l92 : Cond.fieldLink RX7 92 "RecertifyModel" "people" "I" ∈ wsX7_riskOfGrant := by decide +kernel
  refine zg_aload_n X dX7_riskOfGrant_0 rfl ?_
  refine zg_iload_n X dX7_riskOfGrant_1 rfl ?_
  refine zg_callVi X (k_X7_reachedBy l D ad T _ hI g hg) zFr.rf gX7_riskOfGrant_X7_reachedBy rfl rfl rfl qv_X7_reachedBy rfl ⟨Nat.le_of_ble_eq_true rfl, Nat.le_of_ble_eq_true rfl⟩ (q0 := 0) (ci := 9) rfl rfl rfl (Nat.le_of_ble_eq_true rfl) ⟨Nat.le_of_ble_eq_true rfl, Nat.le_of_ble_eq_true rfl⟩ dX7_riskOfGrant_2 (fun r w1 hz9 => ?_)
  obtain ⟨rfl, rfl⟩ := hz9
  refine zg_istore_n X dX7_riskOfGrant_5 (by decide) ?_
  refine zg_iconst X (v := 0) dX7_riskOfGrant_6 (by decide) ?_
  refine zg_istore_n X dX7_riskOfGrant_7 (by decide) ?_
  refine zg_iconst X (v := 0) dX7_riskOfGrant_8 (by decide) ?_
  refine zg_istore X dX7_riskOfGrant_9 (by decide) ?_
  have LP11 : ∀ (fu : Nat) (i : Nat) (acc : Int32), σ.1 0 + 1 ≤ i + fu → i ≤ σ.1 0 → acc = fN (rgF σ r0 (reachI σ g) (holdI σ r0 (-1))) 0 i → zG p l e (headSpec wsX7_riskOfGrant ({ frames := 6, cells := 0, slots := 0, locals := 140 })).room s m [.ref (ad 0), .int (nI g)].toArray below meth c D 5 A 0 0 (MQ below (qI D (zT T) (fun v0 w => v0 = rgI σ g ∧ w = wM ad T (σ)) A) [.ref (ad 0), .int (nI g)].toArray s 0 0 A) (wM ad T σ) 11 [(0, .ref (ad 0)), (1, .int (nI g)), (2, .int (reachI σ g)), (3, .int acc), (4, .int (nI i))] [] := by
    intro fu
    induction fu with
    | zero => intro i acc hfu hii _; exact absurd hfu (by omega)
    | succ fu ih11 =>
      intro i acc hfu hii hacc
      refine zg_iload X dX7_riskOfGrant_11 rfl ?_
      refine zg_aload_n X dX7_riskOfGrant_13 rfl ?_
      refine rg_M_people X f7 l92 dX7_riskOfGrant_14 ?_
      refine zg_icmpn_ge X dX7_riskOfGrant_17 (tgt := 56) (by decide) (a := i) (b := σ.1 0) (by omega) (by omega) (fun c_17 => ?_) (fun c_17 => ?_)
      · skip
        refine zg_iload_n X dX7_riskOfGrant_56 rfl ?_
        refine zg_aload_n X dX7_riskOfGrant_57 rfl ?_
        refine rg_M_day X f7 l134 dX7_riskOfGrant_58 ?_
        refine zg_aload_n X dX7_riskOfGrant_61 rfl ?_
        refine rg_M_used X f7 l43 dX7_riskOfGrant_62 ?_
        refine zg_iload_n X dX7_riskOfGrant_65 rfl ?_
        refine rlM_used X (by omega) dX7_riskOfGrant_66 ?_
        refine zg_isub X dX7_riskOfGrant_67 ?_
        refine zg_bipush X (v := 30) dX7_riskOfGrant_68 (by decide) ?_
        refine zg_icmp_lt X dX7_riskOfGrant_70 (tgt := 78) (by decide) (fun c_70 => ?_) (fun c_70 => ?_)
        · skip
          refine zg_iconst X (v := 0) dX7_riskOfGrant_78 (by decide) ?_
          refine zg_iadd X dX7_riskOfGrant_79 ?_
          exact zg_iret X hr dX7_riskOfGrant_80 (Nat.le_of_ble_eq_true rfl) (Nat.le_of_ble_eq_true rfl) (⟨by rw [rgI, if_neg (zi_lt.mp c_70), rgM_of er (by omega), hacc, show i = σ.1 0 by omega, i32_add0], rfl⟩)
        · skip
          refine zg_bipush X (v := 50) dX7_riskOfGrant_73 (by decide) ?_
          refine zg_goto X dX7_riskOfGrant_75 (tgt := 79) (by decide) ?_
          refine zg_iadd X dX7_riskOfGrant_79 ?_
          exact zg_iret X hr dX7_riskOfGrant_80 (Nat.le_of_ble_eq_true rfl) (Nat.le_of_ble_eq_true rfl) (⟨by rw [rgI, if_pos (zi_le.mpr c_70), rgM_of er (by omega), hacc, show i = σ.1 0 by omega], rfl⟩)
      · skip
        refine zg_iload_n X dX7_riskOfGrant_20 rfl ?_
        refine zg_iload X dX7_riskOfGrant_21 rfl ?_
        refine zg_callSi X (k_X7_has l D ad T _ _ i (by omega)) zFr.rf gX7_riskOfGrant_X7_has rfl rfl rfl qd_X7_has rfl ⟨Nat.le_of_ble_eq_true rfl, Nat.le_of_ble_eq_true rfl⟩ rfl (Nat.le_of_ble_eq_true rfl) ⟨Nat.le_of_ble_eq_true rfl, Nat.le_of_ble_eq_true rfl⟩ dX7_riskOfGrant_23 (fun r w1 hz9 => ?_)
        obtain ⟨rfl, rfl⟩ := hz9
        refine zg_if_eqb X dX7_riskOfGrant_26 (tgt := 48) (by decide) (fun c_26 => ?_) (fun c_26 => ?_)
        · skip
          refine zg_iload_n X dX7_riskOfGrant_48 rfl ?_
          refine zg_istore_n X dX7_riskOfGrant_49 (by decide) ?_
          refine zg_iinc1 X dX7_riskOfGrant_50 (by decide) rfl ?_
          refine zg_goto X dX7_riskOfGrant_53 (tgt := 11) (by decide) ?_
          exact zg_lv (by exact ⟨rfl, rfl, rfl, rfl, rfl, trivial⟩) (ih11 (i + 1) _ (by omega) (by omega) (by rw [fN, ← hacc, rgF, if_neg c_26]; try rfl))
        · skip
          refine zg_iload_n X dX7_riskOfGrant_29 rfl ?_
          refine zg_aload_n X dX7_riskOfGrant_30 rfl ?_
          refine zg_iload X dX7_riskOfGrant_31 rfl ?_
          refine zg_aload_n X dX7_riskOfGrant_33 rfl ?_
          refine rg_M_rightOf X f7 l37 dX7_riskOfGrant_34 ?_
          refine zg_iload_n X dX7_riskOfGrant_37 rfl ?_
          refine rlM_gRight X (by omega) dX7_riskOfGrant_38 ?_
          refine zg_top er ?_
          refine zg_callVi X (k_X7_riskBy l D ad T _ hI i r0 (by omega) (by omega)) zFr.rf gX7_riskOfGrant_X7_riskBy rfl rfl rfl qv_X7_riskBy rfl ⟨Nat.le_of_ble_eq_true rfl, Nat.le_of_ble_eq_true rfl⟩ (q0 := 0) (ci := 9) rfl rfl rfl (Nat.le_of_ble_eq_true rfl) ⟨Nat.le_of_ble_eq_true rfl, Nat.le_of_ble_eq_true rfl⟩ dX7_riskOfGrant_39 (fun r w1 hz9 => ?_)
          obtain ⟨rfl, rfl⟩ := hz9
          refine zg_mmax X l163 lmaxs lmaxi lmaxc (Nat.le_of_ble_eq_true rfl) (Nat.le_of_ble_eq_true rfl) (Nat.le_of_ble_eq_true rfl) (Nat.le_of_ble_eq_true rfl) dX7_riskOfGrant_42 ?_
          refine zg_goto X dX7_riskOfGrant_45 (tgt := 49) (by decide) ?_
          refine zg_istore_n X dX7_riskOfGrant_49 (by decide) ?_
          refine zg_iinc1 X dX7_riskOfGrant_50 (by decide) rfl ?_
          refine zg_goto X dX7_riskOfGrant_53 (tgt := 11) (by decide) ?_
          exact zg_lv (by exact ⟨rfl, rfl, rfl, rfl, rfl, trivial⟩) (ih11 (i + 1) _ (by omega) (by omega) (by rw [fN, ← hacc, rgF, if_pos c_26]; try rfl))
  exact zg_lv (by exact ⟨rfl, rfl, rfl, rfl, rfl, trivial⟩) (LP11 (σ.1 0 + 1) 0 _ (by omega) (by omega) rfl)

set_option maxHeartbeats 4000000 in
set_option maxRecDepth 100000 in
theorem k_X7_bitsOf (l : Launch) (D : va_G) (ad : Nat → Nat) (T : Nat → ClassId) (σ : ZS) (hI : zI σ) (q : Nat) (hq0 : q < 32) : zM l yX7_bitsOf wsX7_bitsOf ({ frames := 6, cells := 0, slots := 0, locals := 136 }) D (zT T) [.ref (ad 0), .int (nI q)] (wM ad T σ) 0 0 (qI D (zT T) (fun v0 w => v0 = rgtI σ q ∧ w = wM ad T (σ))) := by
  have hB0 := hI.bd
  obtain ⟨b0, b1, b2, b3, b4, b5⟩ := hI.bd
  refine zg_of (cc := cX7_bitsOf) (maxL := 4) (ret := (some .int)) (by decide) rfl (Nat.le_of_ble_eq_true rfl) (fun p e s m below meth c A hin hr X => ?_)
  have X : zC p s m _ meth c cX7_bitsOf 4 wsX7_bitsOf RX7 D (zT T) A := X
  have f7 : ∀ w ∈ u_ws RX7 TX7 37, w ∈ wsX7_bitsOf := by decide +kernel
  have l102 : Cond.fieldLink RX7 102 "RecertifyModel" "rights" "I" ∈ wsX7_bitsOf := by decide +kernel
  refine zg_iconst X (v := 0) dX7_bitsOf_0 (by decide) ?_
  refine zg_istore_n X dX7_bitsOf_1 (by decide) ?_
  refine zg_iconst X (v := 0) dX7_bitsOf_2 (by decide) ?_
  refine zg_istore_n X dX7_bitsOf_3 (by decide) ?_
  have LP4 : ∀ (fu : Nat) (i : Nat) (acc : Int32), σ.1 2 + 1 ≤ i + fu → i ≤ σ.1 2 → acc = fN (rgtF σ q) 0 i → zG p l e (headSpec wsX7_bitsOf ({ frames := 6, cells := 0, slots := 0, locals := 136 })).room s m [.ref (ad 0), .int (nI q)].toArray below meth c D 4 A 0 0 (MQ below (qI D (zT T) (fun v0 w => v0 = rgtI σ q ∧ w = wM ad T (σ)) A) [.ref (ad 0), .int (nI q)].toArray s 0 0 A) (wM ad T σ) 4 [(0, .ref (ad 0)), (1, .int (nI q)), (2, .int acc), (3, .int (nI i))] [] := by
    intro fu
    induction fu with
    | zero => intro i acc hfu hii _; exact absurd hfu (by omega)
    | succ fu ih4 =>
      intro i acc hfu hii hacc
      refine zg_iload_n X dX7_bitsOf_4 rfl ?_
      refine zg_aload_n X dX7_bitsOf_5 rfl ?_
      refine rg_M_rights X f7 l102 dX7_bitsOf_6 ?_
      refine zg_icmpn_ge X dX7_bitsOf_9 (tgt := 37) (by decide) (a := i) (b := σ.1 2) (by omega) (by omega) (fun c_9 => ?_) (fun c_9 => ?_)
      · skip
        refine zg_iload_n X dX7_bitsOf_37 rfl ?_
        exact zg_iret X hr dX7_bitsOf_38 (Nat.le_of_ble_eq_true rfl) (Nat.le_of_ble_eq_true rfl) (⟨by rw [hacc, rgtI, show i = σ.1 2 by omega], rfl⟩)
      · skip
        refine zg_iload_n X dX7_bitsOf_12 rfl ?_
        refine zg_aload_n X dX7_bitsOf_13 rfl ?_
        refine zg_iload_n X dX7_bitsOf_14 rfl ?_
        refine zg_iload_n X dX7_bitsOf_15 rfl ?_
        refine zg_callVi X (k_X7_isHolding l D ad T _ hI q i (by omega) hq0) zFr.rf gX7_bitsOf_X7_isHolding rfl rfl rfl qv_X7_isHolding rfl ⟨Nat.le_of_ble_eq_true rfl, Nat.le_of_ble_eq_true rfl⟩ (q0 := 0) (ci := 9) rfl rfl rfl (Nat.le_of_ble_eq_true rfl) ⟨Nat.le_of_ble_eq_true rfl, Nat.le_of_ble_eq_true rfl⟩ dX7_bitsOf_16 (fun r w1 hz9 => ?_)
        obtain ⟨rfl, rfl⟩ := hz9
        refine zg_if_eqb X dX7_bitsOf_19 (tgt := 28) (by decide) (fun c_19 => ?_) (fun c_19 => ?_)
        · skip
          refine zg_iconst X (v := 0) dX7_bitsOf_28 (by decide) ?_
          refine zg_ior X dX7_bitsOf_29 ?_
          refine zg_istore_n X dX7_bitsOf_30 (by decide) ?_
          refine zg_iinc1 X dX7_bitsOf_31 (by decide) rfl ?_
          refine zg_goto X dX7_bitsOf_34 (tgt := 4) (by decide) ?_
          exact zg_lv (by exact ⟨rfl, rfl, rfl, rfl, trivial⟩) (ih4 (i + 1) _ (by omega) (by omega) (by rw [fN, ← hacc, rgtF, if_neg c_19, or0]))
        · skip
          refine zg_iconst X (v := 1) dX7_bitsOf_22 (by decide) ?_
          refine zg_iload_n X dX7_bitsOf_23 rfl ?_
          refine zg_ishl X dX7_bitsOf_24 ?_
          refine zg_goto X dX7_bitsOf_25 (tgt := 29) (by decide) ?_
          refine zg_ior X dX7_bitsOf_29 ?_
          refine zg_istore_n X dX7_bitsOf_30 (by decide) ?_
          refine zg_iinc1 X dX7_bitsOf_31 (by decide) rfl ?_
          refine zg_goto X dX7_bitsOf_34 (tgt := 4) (by decide) ?_
          exact zg_lv (by exact ⟨rfl, rfl, rfl, rfl, trivial⟩) (ih4 (i + 1) _ (by omega) (by omega) (by rw [fN, ← hacc, rgtF, if_pos c_19] <;> rfl))
  exact zg_lv (by exact ⟨rfl, rfl, rfl, rfl, trivial⟩) (LP4 (σ.1 2 + 1) 0 _ (by omega) (by omega) rfl)

set_option maxHeartbeats 4000000 in
set_option maxRecDepth 100000 in
theorem k_X7_undecidedMany (l : Launch) (D : va_G) (ad : Nat → Nat) (T : Nat → ClassId) (σ : ZS) (hB0 : zBd σ)  : zM l yX7_undecidedMany wsX7_undecidedMany ({ frames := 0, cells := 0, slots := 0, locals := 0 }) D (zT T) [.ref (ad 0)] (wM ad T σ) 0 0 (qI D (zT T) (fun v0 w => v0 = nI (cntP (σ.2.2 17) (σ.1 4)) ∧ w = wM ad T (σ))) := by
  have hB1 := hB0
  obtain ⟨b0, b1, b2, b3, b4, b5⟩ := hB1
  refine zg_of (cc := cX7_undecidedMany) (maxL := 3) (ret := (some .int)) (by decide) rfl (Nat.le_of_ble_eq_true rfl) (fun p e s m below meth c A hin hr X => ?_)
  have X : zC p s m _ meth c cX7_undecidedMany 3 wsX7_undecidedMany RX7 D (zT T) A := X
  have f7 : ∀ w ∈ u_ws RX7 TX7 37, w ∈ wsX7_undecidedMany := by decide +kernel
  have l179 : Cond.fieldLink RX7 179 "RecertifyModel" "items" "I" ∈ wsX7_undecidedMany := by decide +kernel
  have l79 : Cond.fieldLink RX7 79 "RecertifyModel" "verdicts" "[C" ∈ wsX7_undecidedMany := by decide +kernel
  refine zg_iconst X (v := 0) dX7_undecidedMany_0 (by decide) ?_
  refine zg_istore_n X dX7_undecidedMany_1 (by decide) ?_
  refine zg_iconst X (v := 0) dX7_undecidedMany_2 (by decide) ?_
  refine zg_istore_n X dX7_undecidedMany_3 (by decide) ?_
  have LP4 : ∀ (fu : Nat) (i : Nat) (acc : Nat), σ.1 4 + 1 ≤ i + fu → i ≤ σ.1 4 → acc = cntP (σ.2.2 17) i → zG p l e (headSpec wsX7_undecidedMany ({ frames := 0, cells := 0, slots := 0, locals := 0 })).room s m [.ref (ad 0)].toArray below meth c D 3 A 0 0 (MQ below (qI D (zT T) (fun v0 w => v0 = nI (cntP (σ.2.2 17) (σ.1 4)) ∧ w = wM ad T (σ)) A) [.ref (ad 0)].toArray s 0 0 A) (wM ad T σ) 4 [(0, .ref (ad 0)), (1, .int (nI acc)), (2, .int (nI i))] [] := by
    intro fu
    induction fu with
    | zero => intro i acc hfu hii _; exact absurd hfu (by omega)
    | succ fu ih4 =>
      intro i acc hfu hii hacc
      refine zg_iload_n X dX7_undecidedMany_4 rfl ?_
      refine zg_aload_n X dX7_undecidedMany_5 rfl ?_
      refine rg_M_items X f7 l179 dX7_undecidedMany_6 ?_
      refine zg_icmpn_ge X dX7_undecidedMany_9 (tgt := 37) (by decide) (a := i) (b := σ.1 4) (by omega) (by omega) (fun c_9 => ?_) (fun c_9 => ?_)
      · skip
        refine zg_iload_n X dX7_undecidedMany_37 rfl ?_
        exact zg_iret X hr dX7_undecidedMany_38 (Nat.le_of_ble_eq_true rfl) (Nat.le_of_ble_eq_true rfl) (⟨by rw [hacc, show i = σ.1 4 by omega], rfl⟩)
      · skip
        refine zg_iload_n X dX7_undecidedMany_12 rfl ?_
        refine zg_aload_n X dX7_undecidedMany_13 rfl ?_
        refine rg_M_verdicts X f7 l79 dX7_undecidedMany_14 ?_
        refine zg_iload_n X dX7_undecidedMany_17 rfl ?_
        refine rlM_verdicts X (by omega) dX7_undecidedMany_18 ?_
        refine zg_bipush X (v := 117) dX7_undecidedMany_19 (by decide) ?_
        refine zg_icmp_ne X dX7_undecidedMany_21 (tgt := 28) (by decide) (fun c_21 => ?_) (fun c_21 => ?_)
        · skip
          refine zg_iconst X (v := 0) dX7_undecidedMany_28 (by decide) ?_
          refine zg_iadd X dX7_undecidedMany_29 ?_
          refine zg_top (i32_add0 _) ?_
          refine zg_istore_n X dX7_undecidedMany_30 (by decide) ?_
          refine zg_iinc1 X dX7_undecidedMany_31 (by decide) rfl ?_
          refine zg_goto X dX7_undecidedMany_34 (tgt := 4) (by decide) ?_
          exact zg_lv (by exact ⟨rfl, rfl, rfl, trivial⟩) (ih4 (i + 1) acc (by omega) (by omega) (by rw [hacc]; exact (if_neg c_21).symm))
        · skip
          refine zg_iconst X (v := 1) dX7_undecidedMany_24 (by decide) ?_
          refine zg_goto X dX7_undecidedMany_25 (tgt := 29) (by decide) ?_
          refine zg_iadd X dX7_undecidedMany_29 ?_
          refine zg_top (nI_1 _) ?_
          skip
          refine zg_istore_n X dX7_undecidedMany_30 (by decide) ?_
          refine zg_iinc1 X dX7_undecidedMany_31 (by decide) rfl ?_
          refine zg_goto X dX7_undecidedMany_34 (tgt := 4) (by decide) ?_
          exact zg_lv (by exact ⟨rfl, rfl, rfl, trivial⟩) (ih4 (i + 1) (acc + 1) (by omega) (by omega) (by rw [hacc]; exact (if_pos c_21).symm))
  exact zg_lv (by exact ⟨rfl, rfl, rfl, trivial⟩) (LP4 (σ.1 4 + 1) 0 0 (by omega) (by omega) rfl)
