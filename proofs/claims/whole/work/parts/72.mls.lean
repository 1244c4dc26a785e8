/-! Least lengths: the same from the rank on; met by a nested group. -/
theorem fN_cg {α : Type} {f f' : Nat → α → α} {a : α} : ∀ n, (∀ i x, i < n → f i x = f' i x) → fN f a n = fN f' a n
  | 0, _ => rfl
  | n + 1, h => by
    rw [fN_s, fN_s, fN_cg n (fun i x hi => h i x (by omega))]
    exact h n _ (Nat.lt_succ_self n)
theorem ls_st {σ : ZS} (hI : zI σ) {q : Nat} : ∀ d g, g < σ.1 1 → rkG σ g ≤ d → lsX σ q (d + 1) g = lsX σ q d g
  | 0, g, hg, hr => absurd (rk_pos hI hg) (by omega)
  | d + 1, g, hg, hr => by
    show (if hB (σ.2.2 4 g) q then 1 else mnI (fN (fun i acc => if hB (σ.2.2 5 g) i then mnI acc (lsX σ q (d + 1) i + 1) else acc) 99 (σ.1 1)) 99) = (if hB (σ.2.2 4 g) q then 1 else mnI (fN (fun i acc => if hB (σ.2.2 5 g) i then mnI acc (lsX σ q d i + 1) else acc) 99 (σ.1 1)) 99)
    rw [fN_cg (f := fun i acc => if hB (σ.2.2 5 g) i then mnI acc (lsX σ q (d + 1) i + 1) else acc) (f' := fun i acc => if hB (σ.2.2 5 g) i then mnI acc (lsX σ q d i + 1) else acc) (σ.1 1) (fun i x hi => ?_)]
    show (if hB (σ.2.2 5 g) i then mnI x (lsX σ q (d + 1) i + 1) else x) = (if hB (σ.2.2 5 g) i then mnI x (lsX σ q d i + 1) else x)
    by_cases hc : hB (σ.2.2 5 g) i
    · rw [if_pos hc, if_pos hc, ls_st hI d i hi (by have := rk_lt hI hg hi hc; omega)]
    · rw [if_neg hc, if_neg hc]
theorem ls_at {σ : ZS} {q d g : Nat} (h1 : ¬ hB (σ.2.2 4 g) q) : lsX σ q (d + 1) g = 99 ∨ ∃ k, k < σ.1 1 ∧ hB (σ.2.2 5 g) k ∧ lsX σ q (d + 1) g = lsX σ q d k + 1 := by
  have hf : fN (fun i acc => if hB (σ.2.2 5 g) i then mnI acc (lsX σ q d i + 1) else acc) (99 : Int32) (σ.1 1) = 99 ∨ ∃ k, k < σ.1 1 ∧ hB (σ.2.2 5 g) k ∧ fN (fun i acc => if hB (σ.2.2 5 g) i then mnI acc (lsX σ q d i + 1) else acc) (99 : Int32) (σ.1 1) = lsX σ q d k + 1 := by
    refine fN_ind (P := fun x : Int32 => x = 99 ∨ ∃ k, k < σ.1 1 ∧ hB (σ.2.2 5 g) k ∧ x = lsX σ q d k + 1) (Or.inl rfl) (fun i x hi hx => ?_)
    by_cases hc : hB (σ.2.2 5 g) i
    · rw [if_pos hc]
      unfold mnI
      by_cases hl : lsX σ q d i + 1 < x
      · rw [if_pos hl]
        exact Or.inr ⟨i, hi, hc, rfl⟩
      · rw [if_neg hl]
        exact hx
    · rw [if_neg hc]
      exact hx
  show (if hB (σ.2.2 4 g) q then 1 else mnI (fN (fun i acc => if hB (σ.2.2 5 g) i then mnI acc (lsX σ q d i + 1) else acc) 99 (σ.1 1)) 99) = 99 ∨ ∃ k, k < σ.1 1 ∧ hB (σ.2.2 5 g) k ∧ (if hB (σ.2.2 4 g) q then 1 else mnI (fN (fun i acc => if hB (σ.2.2 5 g) i then mnI acc (lsX σ q d i + 1) else acc) 99 (σ.1 1)) 99) = lsX σ q d k + 1
  rw [if_neg h1]
  unfold mnI at hf ⊢
  split
  · exact Or.inl rfl
  · exact hf
