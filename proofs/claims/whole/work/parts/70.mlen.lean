/-! The reference's lengths of paths. -/
theorem lsX_ovl {t s : ZS} (h : ovl t s) {q : Nat} : lsX t q = lsX s q := funext fun d => by
  obtain ⟨b, c, f, rfl⟩ := ovl_ex h
  induction d with
  | zero => rfl
  | succ d ih =>
    funext g
    show (if hB (s.2.2 4 g) q then 1 else mnI (fN (fun i acc => if hB (s.2.2 5 g) i then mnI acc (lsX (uK s b c f) q d i + 1) else acc) 99 (s.1 1)) 99) = _
    rw [ih]
    rfl
theorem srF_ovl {t s : ZS} (h : ovl t s) {q r : Nat} : srF t q r = srF s q r := by
  have e := lsX_ovl h (q := q)
  obtain ⟨b, c, f, rfl⟩ := ovl_ex h
  funext g x
  unfold srF
  rw [e]
  rfl
theorem srI_ovl {t s : ZS} (h : ovl t s) {q r : Nat} : srI t q r = srI s q r := by
  have e := srF_ovl h (q := q) (r := r)
  obtain ⟨b, c, f, rfl⟩ := ovl_ex h
  unfold srI
  rw [e]
  rfl
theorem ls_nat {σ : ZS} {q : Nat} : ∀ d g, ∃ n, 1 ≤ n ∧ n ≤ 99 ∧ lsX σ q d g = nI n
  | 0, _ => ⟨99, by omega, by omega, rfl⟩
  | d + 1, g => by
    unfold lsX
    split
    · exact ⟨1, by omega, by omega, rfl⟩
    · have hm : ∀ x y : Int32, (∃ n, 1 ≤ n ∧ n ≤ 99 ∧ x = nI n) → (∃ n, 1 ≤ n ∧ n ≤ 100 ∧ y = nI n) → ∃ n, 1 ≤ n ∧ n ≤ 99 ∧ mnI x y = nI n := by
        rintro x y ⟨a, ha, ha2, rfl⟩ ⟨b, hb, hb2, rfl⟩
        unfold mnI
        by_cases hc : nI b < nI a
        · rw [if_pos hc]
          have := (nI_ltI (by omega) (by omega)).mp hc
          exact ⟨b, hb, by omega, rfl⟩
        · rw [if_neg hc]
          exact ⟨a, ha, ha2, rfl⟩
      refine hm _ 99 (fN_ind (P := fun x => ∃ n, 1 ≤ n ∧ n ≤ 99 ∧ x = nI n) ⟨99, by omega, by omega, rfl⟩ (fun i x _ hx => ?_)) ⟨99, by omega, by omega, rfl⟩
      split
      · obtain ⟨n, h1, h2, e⟩ := ls_nat (σ := σ) (q := q) d i
        refine hm x _ hx ⟨n + 1, by omega, by omega, ?_⟩
        rw [e, nI_1]
      · exact hx
theorem ls_m1 {σ : ZS} {q d g : Nat} : ¬ lsX σ q d g = -1 := by
  obtain ⟨n, h1, h2, e⟩ := ls_nat (σ := σ) (q := q) d g
  rw [e]
  exact nI_m1 (by omega)
theorem sr_idx {σ : ZS} (hI : zI σ) {q r : Nat} (h : 0 ≤ srI σ q r) : zIdx (srI σ q r) (σ.1 1) := by
  have hf : fN (srF σ q r) (-2) (σ.1 3) = -2 ∨ zIdx (fN (srF σ q r) (-2) (σ.1 3)) (σ.1 1) := by
    refine fN_ind (P := fun x => x = -2 ∨ zIdx x (σ.1 1)) (Or.inl rfl) (fun i x hi hx => ?_)
    unfold srF
    split
    · rename_i hc
      obtain ⟨j, hj, -, -, e⟩ := hI.mgrp i hi hc.2.1
      exact Or.inr ⟨j, hj, e⟩
    · exact hx
  unfold srI at h ⊢
  split
  · rename_i hc
    rw [if_pos hc] at h
    exact absurd h (by decide)
  · rename_i hc
    rw [if_neg hc] at h
    rcases hf with e | e
    · rw [e] at h
      exact absurd h (by decide)
    · exact e
def plI (σ : ZS) (q r : Nat) : Int32 := if srI σ q r = -2 then -1 else if 0 ≤ srI σ q r then lsX σ q 8 (ix (srI σ q r)) else 0
