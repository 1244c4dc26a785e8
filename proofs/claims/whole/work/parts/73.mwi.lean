/-! Bits of the groups from which a path of at most so many groups leads to the person. -/
theorem wi0_hB {σ : ZS} {p g : Nat} (hg : g < 32) : ∀ n, n ≤ 8 → (hB (fN (wi0F σ p) 0 n) g ↔ g < n ∧ hB (σ.2.2 4 g) p)
  | 0, _ => ⟨fun h => absurd h (hB_0 hg), fun h => absurd h.1 (Nat.not_lt_zero g)⟩
  | n + 1, hn => by
    rw [fN_s]
    by_cases hc : hB (σ.2.2 4 n) p
    · rw [wi0F, if_pos hc, hB_or hg, wi0_hB hg n (by omega), hB_bt1 (by omega) hg]
      constructor
      · rintro (⟨a, b⟩ | e)
        · exact ⟨by omega, b⟩
        · subst e; exact ⟨by omega, hc⟩
      · rintro ⟨a, b⟩
        by_cases e : n = g
        · exact Or.inr e
        · exact Or.inl ⟨by omega, b⟩
    · rw [wi0F, if_neg hc, wi0_hB hg n (by omega)]
      constructor
      · rintro ⟨a, b⟩; exact ⟨by omega, b⟩
      · rintro ⟨a, b⟩
        by_cases e : g = n
        · exact absurd (e ▸ b) hc
        · exact ⟨by omega, b⟩
theorem wi1_hB {σ : ZS} {near acc : Int32} {g : Nat} (hg : g < 32) : ∀ n, n ≤ 8 → (hB (fN (wi1F σ near) acc n) g ↔ hB acc g ∨ (g < n ∧ ¬ σ.2.2 5 g &&& near = 0))
  | 0, _ => ⟨fun h => Or.inl h, fun h => h.elim id (fun q => absurd q.1 (Nat.not_lt_zero g))⟩
  | n + 1, hn => by
    rw [fN_s]
    by_cases hc : ¬ σ.2.2 5 n &&& near = 0
    · rw [wi1F, if_pos hc, hB_or hg, wi1_hB hg n (by omega), hB_bt1 (by omega) hg]
      constructor
      · rintro ((a | ⟨a, b⟩) | e)
        · exact Or.inl a
        · exact Or.inr ⟨by omega, b⟩
        · subst e; exact Or.inr ⟨by omega, hc⟩
      · rintro (a | ⟨a, b⟩)
        · exact Or.inl (Or.inl a)
        · by_cases e : n = g
          · exact Or.inr e
          · exact Or.inl (Or.inr ⟨by omega, b⟩)
    · rw [wi1F, if_neg hc, wi1_hB hg n (by omega)]
      constructor
      · rintro (a | ⟨a, b⟩)
        · exact Or.inl a
        · exact Or.inr ⟨by omega, b⟩
      · rintro (a | ⟨a, b⟩)
        · exact Or.inl a
        · by_cases e : g = n
          · exact absurd (e ▸ b) hc
          · exact Or.inr ⟨by omega, b⟩
theorem and_ex {x y : Int32} : (¬ x &&& y = 0) ↔ ∃ j, j < 32 ∧ hB x j ∧ hB y j := by
  constructor
  · intro h
    refine Classical.byContradiction fun q => h (hB_ext fun i hi => ?_)
    rw [hB_and hi]
    exact ⟨fun z => absurd ⟨i, hi, z⟩ q, fun z => absurd z (hB_0 hi)⟩
  · rintro ⟨j, hj, h⟩ e
    have : hB (x &&& y) j := (hB_and hj).mpr h
    rw [e] at this
    exact hB_0 hj this
theorem with_0 {σ : ZS} (hI : zI σ) {p g : Nat} (hg : g < σ.1 1) : hB (withI σ p 0) g ↔ hB (σ.2.2 4 g) p := by
  have b1 := hI.bd.2.1
  show hB (fN (wi0F σ p) 0 (σ.1 1)) g ↔ _
  rw [wi0_hB (by omega) _ b1]
  exact ⟨fun h => h.2, fun h => ⟨hg, h⟩⟩
theorem with_s {σ : ZS} (hI : zI σ) {p k g : Nat} (hg : g < σ.1 1) : hB (withI σ p (k + 1)) g ↔ hB (withI σ p k) g ∨ ∃ j, j < σ.1 1 ∧ hB (σ.2.2 5 g) j ∧ hB (withI σ p k) j := by
  have b1 := hI.bd.2.1
  show hB (fN (wi1F σ (withI σ p k)) (withI σ p k) (σ.1 1)) g ↔ _
  rw [wi1_hB (by omega) _ b1, and_ex]
  constructor
  · rintro (a | ⟨-, j, hj, h1, h2⟩)
    · exact Or.inl a
    · exact Or.inr ⟨j, Classical.byContradiction fun q => hI.nst g (by omega) j (by omega) hj h1, h1, h2⟩
  · rintro (a | ⟨j, hj, h1, h2⟩)
    · exact Or.inl a
    · exact Or.inr ⟨hg, j, by omega, h1, h2⟩
