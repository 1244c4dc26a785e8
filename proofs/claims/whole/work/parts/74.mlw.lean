/-! Least lengths and the rows of groups within a length. -/
theorem mnI_t {x y : Int32} : (mnI x y).toInt = min x.toInt y.toInt := by
  unfold mnI
  by_cases h : y < x
  · rw [if_pos h]
    have := Int32.lt_iff_toInt_lt.mp h
    omega
  · rw [if_neg h]
    rw [Int32.lt_iff_toInt_lt] at h
    omega
theorem ls_rng {σ : ZS} {q d g : Nat} : 1 ≤ (lsX σ q d g).toInt ∧ (lsX σ q d g).toInt ≤ 99 ∧ (lsX σ q d g + 1).toInt = (lsX σ q d g).toInt + 1 := by
  obtain ⟨n, h1, h2, e⟩ := ls_nat (σ := σ) (q := q) d g
  rw [e, nI_1, nI_toInt (by omega), nI_toInt (by omega)]
  omega
theorem ls_ub {σ : ZS} {q d g k : Nat} (h1 : ¬ hB (σ.2.2 4 g) q) (hk : k < σ.1 1) (h : hB (σ.2.2 5 g) k) : (lsX σ q (d + 1) g).toInt ≤ (lsX σ q d k).toInt + 1 := by
  have hf : ∀ n, k < n → (fN (fun i acc => if hB (σ.2.2 5 g) i then mnI acc (lsX σ q d i + 1) else acc) (99 : Int32) n).toInt ≤ (lsX σ q d k).toInt + 1 := by
    intro n
    induction n with
    | zero => intro hn; exact absurd hn (Nat.not_lt_zero k)
    | succ n ih =>
      intro hn
      rw [fN_s]
      rcases Nat.lt_succ_iff_lt_or_eq.mp hn with e | e
      · have := ih e
        by_cases hc : hB (σ.2.2 5 g) n
        · rw [if_pos hc, mnI_t]
          omega
        · rw [if_neg hc]
          exact this
      · subst e
        rw [if_pos h, mnI_t, ls_rng.2.2]
        omega
  show (if hB (σ.2.2 4 g) q then (1 : Int32) else mnI (fN (fun i acc => if hB (σ.2.2 5 g) i then mnI acc (lsX σ q d i + 1) else acc) 99 (σ.1 1)) 99).toInt ≤ _
  rw [if_neg h1, mnI_t]
  have := hf (σ.1 1) hk
  omega
theorem ls_1 {σ : ZS} {q d g : Nat} (h1 : hB (σ.2.2 4 g) q) : (lsX σ q (d + 1) g).toInt = 1 := by
  show (if hB (σ.2.2 4 g) q then (1 : Int32) else mnI (fN (fun i acc => if hB (σ.2.2 5 g) i then mnI acc (lsX σ q d i + 1) else acc) 99 (σ.1 1)) 99).toInt = 1
  rw [if_pos h1]
  decide
theorem ls_8 {σ : ZS} (hI : zI σ) {q g : Nat} (hg : g < σ.1 1) : lsX σ q 8 g = lsX σ q (8 + 1) g := (ls_st hI 8 g hg (rk_le hI)).symm
theorem ls_with {σ : ZS} (hI : zI σ) {p : Nat} : ∀ k g : Nat, k ≤ 90 → g < σ.1 1 → (hB (withI σ p k) g ↔ (lsX σ p 8 g).toInt ≤ k + 1)
  | 0, g, _, hg => by
    rw [with_0 hI hg, ls_8 hI hg]
    constructor
    · intro h
      rw [ls_1 h]
      omega
    · intro h
      refine Classical.byContradiction fun q => ?_
      rcases ls_at (d := 8) q with e | ⟨k, hk, h5, e⟩
      · rw [e] at h
        exact absurd h (by decide)
      · rw [e, ls_rng.2.2] at h
        have := (ls_rng (σ := σ) (q := p) (d := 8) (g := k)).1
        omega
  | k + 1, g, hk9, hg => by
    rw [with_s hI hg, ls_with hI k g (by omega) hg]
    constructor
    · rintro (h | ⟨j, hj, h5, hw⟩)
      · push_cast
        omega
      · have hj8 := (ls_with hI k j (by omega) hj).mp hw
        rw [ls_8 hI hg]
        by_cases h4 : hB (σ.2.2 4 g) p
        · rw [ls_1 h4]
          omega
        · have := ls_ub (d := 8) h4 hj h5
          omega
    · intro h
      by_cases h4 : hB (σ.2.2 4 g) p
      · left
        rw [ls_8 hI hg, ls_1 h4]
        omega
      · rw [ls_8 hI hg] at h ⊢
        rcases ls_at (d := 8) h4 with e | ⟨j, hj, h5, e⟩
        · rw [e] at h
          have e99 : (99 : Int32).toInt = 99 := by decide
          rw [e99] at h
          omega
        · rw [e, ls_rng.2.2] at h
          exact Or.inr ⟨j, hj, h5, (ls_with hI k j (by omega) hj).mpr (by omega)⟩
