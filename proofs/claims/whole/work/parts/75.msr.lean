/-! The source is a best group. -/
abbrev gGr (σ : ZS) (r i j : Nat) : Prop := actOf σ i (nI r) ∧ ¬ σ.2.2 26 i = 0 ∧ σ.2.2 25 i = nI j
theorem sr_spec {σ : ZS} (hI : zI σ) {q r : Nat} : ∀ n, n ≤ σ.1 3 → (fN (srF σ q r) (-2) n = -2 ∧ ∀ i j, i < n → j < σ.1 1 → gGr σ r i j → (lsX σ q 8 j).toInt = 99) ∨ ∃ b, b < σ.1 1 ∧ fN (srF σ q r) (-2) n = nI b ∧ (∃ i, i < n ∧ gGr σ r i b) ∧ (lsX σ q 8 b).toInt < 99 ∧ ∀ i j, i < n → j < σ.1 1 → gGr σ r i j → (lsX σ q 8 b).toInt < (lsX σ q 8 j).toInt ∨ ((lsX σ q 8 b).toInt = (lsX σ q 8 j).toInt ∧ b ≤ j)
  | 0, _ => Or.inl ⟨rfl, fun i j hi => absurd hi (Nat.not_lt_zero i)⟩
  | n + 1, hn => by
    have b1 := hI.bd.2.1
    have ih := sr_spec hI (q := q) (r := r) n (by omega)
    have h99 : ∀ j, ¬ lsX σ q 8 j = 99 ↔ (lsX σ q 8 j).toInt < 99 := fun j => by
      have := ls_rng (σ := σ) (q := q) (d := 8) (g := j)
      constructor
      · intro h
        refine Classical.byContradiction fun z => h (Int32.toInt_inj.mp ?_)
        have e99 : (99 : Int32).toInt = 99 := by decide
        rw [e99]
        omega
      · intro h e
        rw [e] at h
        exact absurd h (by decide)
    rw [fN_s]
    by_cases hg : actOf σ n (nI r) ∧ ¬ σ.2.2 26 n = 0
    · obtain ⟨t, ht, -, -, et⟩ := hI.mgrp n (by omega) hg.2
      have one : ∀ j, j < σ.1 1 → gGr σ r n j → j = t := fun j hj h => (nI_eq (by omega) (by omega)).mp (h.2.2.symm.trans et)
      have gt : gGr σ r n t := ⟨hg.1, hg.2, et⟩
      rw [srF, et, ix_nI (show t < 2 ^ 31 by omega)]
      by_cases ht9 : lsX σ q 8 t = 99
      · rw [if_neg (fun z => z.2.2.1 ht9)]
        have ht99 : (lsX σ q 8 t).toInt = 99 := by rw [ht9]; decide
        rcases ih with ⟨e, h⟩ | ⟨b, hb, e, ⟨i, hi, hib⟩, hl, h⟩
        · refine Or.inl ⟨e, fun i j hi hj hij => ?_⟩
          rcases Nat.lt_succ_iff_lt_or_eq.mp hi with z | z
          · exact h i j z hj hij
          · subst z; rw [one j hj hij]; exact ht99
        · refine Or.inr ⟨b, hb, e, ⟨i, by omega, hib⟩, hl, fun i j hi hj hij => ?_⟩
          rcases Nat.lt_succ_iff_lt_or_eq.mp hi with z | z
          · exact h i j z hj hij
          · subst z; rw [one j hj hij]; left; omega
      · have ht9' := (h99 t).mp ht9
        rcases ih with ⟨e, h⟩ | ⟨b, hb, e, ⟨i, hi, hib⟩, hl, h⟩
        · have e' : fN (srF σ q r) (-2) n < 0 := by rw [e]; decide
          rw [if_pos ⟨hg.1, hg.2, ht9, Or.inl e'⟩]
          refine Or.inr ⟨t, ht, rfl, ⟨n, by omega, gt⟩, ht9', fun i j hi hj hij => ?_⟩
          rcases Nat.lt_succ_iff_lt_or_eq.mp hi with z | z
          · left; rw [h i j z hj hij]; exact ht9'
          · subst z; rw [one j hj hij]; right; exact ⟨rfl, Nat.le_refl t⟩
        · rw [e, ix_nI (show b < 2 ^ 31 by omega)]
          have hb0 : ¬ nI b < 0 := fun z => (zi_lt.mp z) (nI_pos' (by omega))
          have hlt : lsX σ q 8 t < lsX σ q 8 b ↔ (lsX σ q 8 t).toInt < (lsX σ q 8 b).toInt := Int32.lt_iff_toInt_lt
          have hbt : nI t < nI b ↔ t < b := nI_ltI (by omega) (by omega)
          by_cases hc : lsX σ q 8 t < lsX σ q 8 b ∨ (lsX σ q 8 t = lsX σ q 8 b ∧ nI t < nI b)
          · rw [if_pos ⟨hg.1, hg.2, ht9, Or.inr hc⟩]
            have hc2 : (lsX σ q 8 t).toInt < (lsX σ q 8 b).toInt ∨ ((lsX σ q 8 t).toInt = (lsX σ q 8 b).toInt ∧ t < b) := hc.imp hlt.mp (fun z => ⟨by rw [z.1], hbt.mp z.2⟩)
            refine Or.inr ⟨t, ht, rfl, ⟨n, by omega, gt⟩, ht9', fun i j hi hj hij => ?_⟩
            rcases Nat.lt_succ_iff_lt_or_eq.mp hi with z | z
            · have := h i j z hj hij
              omega
            · subst z; rw [one j hj hij]; right; exact ⟨rfl, Nat.le_refl t⟩
          · rw [if_neg (fun z => z.2.2.2.elim hb0 hc)]
            have hc2 : ¬ ((lsX σ q 8 t).toInt < (lsX σ q 8 b).toInt ∨ ((lsX σ q 8 t).toInt = (lsX σ q 8 b).toInt ∧ t < b)) := fun z => hc (z.imp hlt.mpr (fun z => ⟨Int32.toInt_inj.mp z.1, hbt.mpr z.2⟩))
            refine Or.inr ⟨b, hb, rfl, ⟨i, by omega, hib⟩, hl, fun i j hi hj hij => ?_⟩
            rcases Nat.lt_succ_iff_lt_or_eq.mp hi with z | z
            · exact h i j z hj hij
            · subst z; rw [one j hj hij]; omega
    · rw [srF, if_neg (fun z => hg ⟨z.1, z.2.1⟩)]
      rcases ih with ⟨e, h⟩ | ⟨b, hb, e, ⟨i, hi, hib⟩, hl, h⟩
      · refine Or.inl ⟨e, fun i j hi hj hij => ?_⟩
        rcases Nat.lt_succ_iff_lt_or_eq.mp hi with z | z
        · exact h i j z hj hij
        · subst z; exact absurd ⟨hij.1, hij.2.1⟩ hg
      · refine Or.inr ⟨b, hb, e, ⟨i, by omega, hib⟩, hl, fun i j hi hj hij => ?_⟩
        rcases Nat.lt_succ_iff_lt_or_eq.mp hi with z | z
        · exact h i j z hj hij
        · subst z; exact absurd ⟨hij.1, hij.2.1⟩ hg
