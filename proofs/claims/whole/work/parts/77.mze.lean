/-! The evidence's chain is kept by a new entry. -/
theorem repl_cg {t s : ZS} {k : Nat} (h : ∀ e, e < k → t.2.2 23 e = s.2.2 23 e ∧ t.2.2 24 e = s.2.2 24 e ∧ t.2.2 14 e = s.2.2 14 e) : replI t k = replI s k := fN_cg k (fun e x he => by
  obtain ⟨h1, h2, h3⟩ := h e he
  show sealI x (t.2.2 23 e) (t.2.2 24 e) (t.2.2 14 e) = sealI x (s.2.2 23 e) (s.2.2 24 e) (s.2.2 14 e)
  rw [h1, h2, h3])
theorem zE_ev {σ : ZS} {sg g dy : Int32} (h : zE σ) : zE (evAdd σ sg g dy) := by
  unfold evAdd
  by_cases h9 : 99 ≤ σ.1 5
  · rw [if_pos h9]
    exact h
  · rw [if_neg h9]
    intro e he
    have he : e < σ.1 5 + 1 := he
    have hu : ∀ (f : Nat → Int32) (v : Int32) (a : Nat), a < σ.1 5 → upd f (σ.1 5) v a = f a := fun f v a ha => if_neg (by omega)
    rcases Nat.lt_succ_iff_lt_or_eq.mp he with z | z
    · refine (repl_cg (s := σ) (fun a ha => ⟨hu _ _ a (by omega), hu _ _ a (by omega), hu _ _ a (by omega)⟩)).trans ((h e z).trans ?_)
      exact (hu _ _ e z).symm
    · subst z
      show sealI (replI _ (σ.1 5)) (upd (σ.2.2 23) (σ.1 5) g (σ.1 5)) (upd (σ.2.2 24) (σ.1 5) dy (σ.1 5)) (upd (σ.2.2 14) (σ.1 5) sg (σ.1 5)) = upd (σ.2.2 15) (σ.1 5) (sealI (if 0 < σ.1 5 then σ.2.2 15 (σ.1 5 - 1) else 0) g dy sg) (σ.1 5)
      rw [upd_e, upd_e, upd_e, upd_e, repl_cg (s := σ) (fun a ha => ⟨hu _ _ a ha, hu _ _ a ha, hu _ _ a ha⟩)]
      by_cases h0 : 0 < σ.1 5
      · rw [if_pos h0, ← h (σ.1 5 - 1) (by omega), show σ.1 5 - 1 + 1 = σ.1 5 by omega]
      · rw [if_neg h0, show σ.1 5 = 0 by omega]
        rfl
