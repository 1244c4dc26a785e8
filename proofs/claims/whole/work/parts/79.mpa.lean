/-! The groups on the best path: the class's and the reference's are one; holdings told by paths. -/
theorem low_ex {x : Int32} {n : Nat} (h : ∃ i, i < n ∧ hB x i) : ∃ i, i < n ∧ hB x i ∧ (∀ a, a < i → ¬ hB x a) ∧ lowI x n = nI i := by
  obtain ⟨i, hi, hb⟩ := h
  cases e : (List.range n).find? (fun j => decide (hB x j)) with
  | none =>
    rw [List.find?_range_eq_none] at e
    exact absurd (decide_eq_true hb) (by have := e i hi; simpa using this)
  | some j =>
    have e2 := e
    rw [List.find?_range_eq_some] at e2
    obtain ⟨h1, h2, h3⟩ := e2
    refine ⟨j, List.mem_range.mp h2, of_decide_eq_true h1, fun a ha q => ?_, by unfold lowI; rw [e]⟩
    have := h3 a ha
    rw [decide_eq_true q] at this
    exact absurd this (by decide)
theorem len_nat {σ : ZS} {q r : Nat} : lenI σ q r = -1 ∨ ∃ k, k ≤ 8 ∧ lenI σ q r = nI k := by
  by_cases h : hasAct σ (nI r) (nI q) (-1)
  · exact Or.inr ⟨0, by omega, lenI_0 h⟩
  · rw [lenI, if_neg h]
    cases e : (List.range 8).find? (fun k => decide (lenP σ q r k)) with
    | none => exact Or.inl rfl
    | some k =>
      rw [List.find?_range_eq_some] at e
      have := List.mem_range.mp e.2.1
      exact Or.inr ⟨k + 1, by omega, rfl⟩
theorem pa_0 {σ : ZS} (hI : zI σ) {q r k : Nat} (eL : lenI σ q r = nI k) (h0 : 0 < k) (h8 : k ≤ 8) : ∃ b, b < σ.1 1 ∧ srI σ q r = nI b ∧ onPath σ (grgI σ r) q k 0 = nI b ∧ (lsX σ q 8 b).toInt = k := by
  have b1 := hI.bd.2.1
  have ek := eL
  rw [len_pl hI, plI] at ek
  have hn2 : ¬ srI σ q r = -2 := fun z => by
    rw [if_pos z] at ek
    exact nI_m1 (by omega) ek.symm
  rw [if_neg hn2] at ek
  have hp : 0 ≤ srI σ q r := Classical.byContradiction fun z => by
    rw [if_neg z] at ek
    exact nI_ne0 h0 (by omega) ek.symm
  rw [if_pos hp] at ek
  have ha : ¬ hasAct σ (nI r) (nI q) (-1) := fun z => by
    have e : srI σ q r = -1 := if_pos z
    rw [e] at hp
    exact absurd hp (by decide)
  have e : srI σ q r = fN (srF σ q r) (-2) (σ.1 3) := if_neg ha
  rcases sr_spec hI (q := q) (r := r) (σ.1 3) (Nat.le_refl _) with ⟨e2, -⟩ | ⟨b, hb, e2, ⟨i, hi, hib⟩, hl, h⟩
  · exact absurd (e.trans e2) hn2
  · rw [e2] at e
    rw [e, ix_nI (by omega)] at ek
    have et : (lsX σ q 8 b).toInt = k := by rw [ek, nI_toInt (by omega)]
    refine ⟨b, hb, e, ?_, et⟩
    refine lowI_some hb ((hB_and (by omega)).mpr ⟨(grg_hB hI hb _ (Nat.le_refl _)).mpr ⟨i, hi, hib⟩, (ls_with hI (k - 1) b (by omega) hb).mpr (by omega)⟩) (fun a ha2 z => ?_)
    obtain ⟨z1, z2⟩ := (hB_and (by omega)).mp z
    obtain ⟨i', hi', hg'⟩ := (grg_hB hI (show a < σ.1 1 by omega) _ (Nat.le_refl _)).mp z1
    have z3 := (ls_with hI (k - 1) a (by omega) (by omega)).mp z2
    have := h i' a hi' (by omega) hg'
    omega
theorem pa_s {σ : ZS} (hI : zI σ) {q k t g : Nat} {S : Int32} (h8 : k ≤ 8) (ht : t + 1 < k) (hg : g < σ.1 1) (eg : onPath σ S q k t = nI g) (hl : (lsX σ q 8 g).toInt = k - t) : ∃ n, n < σ.1 1 ∧ onPath σ S q k (t + 1) = nI n ∧ (lsX σ q 8 n).toInt = k - (t + 1) ∧ hB (σ.2.2 5 g) n ∧ lsX σ q 8 n + 1 = lsX σ q 8 g ∧ ∀ a, a < n → ¬ (hB (σ.2.2 5 g) a ∧ lsX σ q 8 a + 1 = lsX σ q 8 g) := by
  have b1 := hI.bd.2.1
  have e9 := ls_8 hI (q := q) hg
  have h4 : ¬ hB (σ.2.2 4 g) q := fun z => by
    have := ls_1 (d := 8) z
    rw [← e9] at this
    omega
  have hex : ∃ i, i < σ.1 1 ∧ hB (σ.2.2 5 g &&& withI σ q (k - (t + 1) - 1)) i := by
    rcases ls_at (d := 8) h4 with z | ⟨j, hj, h5, z⟩
    · rw [← e9] at z
      rw [z] at hl
      have e99 : (99 : Int32).toInt = 99 := by decide
      rw [e99] at hl
      omega
    · rw [← e9] at z
      rw [z, ls_rng.2.2] at hl
      exact ⟨j, hj, (hB_and (by omega)).mpr ⟨h5, (ls_with hI _ j (by omega) hj).mpr (by omega)⟩⟩
  obtain ⟨n, hn, hbn, hmin, en⟩ := low_ex hex
  obtain ⟨h5, hw⟩ := (hB_and (by omega)).mp hbn
  have hw2 := (ls_with hI _ n (by omega) hn).mp hw
  have hub := ls_ub (d := 8) h4 hn h5
  rw [← e9] at hub
  have hln : (lsX σ q 8 n).toInt = k - (t + 1) := by omega
  refine ⟨n, hn, ?_, hln, h5, Int32.toInt_inj.mp (by rw [ls_rng.2.2]; omega), fun a ha z => ?_⟩
  · rw [onPath, eg, if_pos (pIn_nI (by omega) hg), ix_nI (by omega)]
    exact en
  · have z2 := congrArg Int32.toInt z.2
    rw [ls_rng.2.2] at z2
    exact hmin a ha ((hB_and (by omega)).mpr ⟨z.1, (ls_with hI _ a (by omega) (by omega)).mpr (by omega)⟩)
theorem pa_f {σ t : ZS} {x y z v w : Int32} (h : mR [eNS, eIS] σ (sp_pathLength σ x y) v t) (hc : ¬ t.2.1 8 ≤ 0) : mR [eNS, eIS, eIO] σ (sp_pathAt σ x y z) w t := by
  rcases h with ⟨s, e, ho, h7, h8⟩ | ⟨E, k, e, hk, ho, h7, h8⟩
  · rw [h8] at hc
    exact absurd (by decide) hc
  · refine Or.inr ⟨E, k, ?_, ?_, ho, h7, h8⟩
    · unfold sp_pathLength at e
      unfold sp_pathAt
      by_cases h1 : pIn x (σ.1 0) ∧ pIn y (σ.1 2)
      · rw [if_pos h1] at e ⊢
        by_cases h2 : lenI σ (ix x) (ix y) = -1
        · rw [if_pos h2] at e ⊢
          exact e
        · rw [if_neg h2] at e
          cases e
      · rw [if_neg h1] at e ⊢
        exact e
    · match k, hk with
      | 0, hk => exact hk
      | 1, hk => exact hk
theorem pa_ok {σ t : ZS} {x y v : Int32} (hI : zI σ) (h : mR [eNS, eIS] σ (sp_pathLength σ x y) v t) (hc : t.2.1 8 ≤ 0) : ∃ j0 j1 k, j0 < σ.1 0 ∧ j1 < σ.1 2 ∧ x = nI j0 ∧ y = nI j1 ∧ v = nI k ∧ k ≤ 8 ∧ lenI σ j0 j1 = nI k ∧ ovl t σ ∧ t.2.1 7 = σ.2.1 7 ∧ t.2.1 8 = 0 := by
  obtain ⟨b0, b1, b2, -⟩ := hI.bd
  rcases h with ⟨s, e, ho, h7, h8⟩ | ⟨E, k, e, hk, ho, h7, h8⟩
  · unfold sp_pathLength at e
    by_cases h1 : pIn x (σ.1 0) ∧ pIn y (σ.1 2)
    · rw [if_pos h1] at e
      obtain ⟨j0, hj0, rfl⟩ := pIn_idx (by omega) h1.1
      obtain ⟨j1, hj1, rfl⟩ := pIn_idx (by omega) h1.2
      rw [ix_nI (by omega), ix_nI (by omega)] at e
      by_cases h2 : lenI σ j0 j1 = -1
      · rw [if_pos h2] at e
        cases e
      · rw [if_neg h2] at e
        obtain ⟨k, hk, ek⟩ := (len_nat (σ := σ) (q := j0) (r := j1)).resolve_left h2
        have e3 := Prod.ext_iff.mp (Sum.inr.inj e)
        have e4 : v = nI k := e3.1.symm.trans ek
        have e5 : s = σ := e3.2.symm
        subst e5
        exact ⟨j0, j1, k, hj0, hj1, rfl, rfl, e4, hk, ek, ho, h7, h8⟩
    · rw [if_neg h1] at e
      cases e
  · rw [h8] at hc
    match k, hk with
    | 0, _ => exact absurd hc (by decide)
    | 1, _ => exact absurd hc (by decide)
theorem pa_o {σ t : ZS} {z w : Int32} {j0 j1 k : Nat} (hI : zI σ) (h0 : j0 < σ.1 0) (h1 : j1 < σ.1 2) (h8 : k ≤ 8) (eL : lenI σ j0 j1 = nI k) (ho : ovl t σ) (h7 : t.2.1 7 = σ.2.1 7) (hz : ¬ pIn z k) : mR [eNS, eIS, eIO] σ (sp_pathAt σ (nI j0) (nI j1) z) w (uN t 8 3) := by
  obtain ⟨b0, b1, b2, -⟩ := hI.bd
  refine Or.inr ⟨eIO, 2, ?_, rfl, ovl_tr ovl_8 ho, h7, rfl⟩
  rw [sp_pathAt, if_pos ⟨pIn_nI (by omega) h0, pIn_nI (by omega) h1⟩, ix_nI (by omega), ix_nI (by omega), eL, if_neg (nI_m1 (by omega)), if_neg hz]
theorem pa_r {σ t : ZS} {v : Int32} {j0 j1 k i : Nat} (hI : zI σ) (h0 : j0 < σ.1 0) (h1 : j1 < σ.1 2) (h8 : k ≤ 8) (eL : lenI σ j0 j1 = nI k) (ho : ovl t σ) (h7 : t.2.1 7 = σ.2.1 7) (h88 : t.2.1 8 = 0) (hi : i < k) (hv : onPath σ (grgI σ j1) j0 k i = v) : mR [eNS, eIS, eIO] σ (sp_pathAt σ (nI j0) (nI j1) (nI i)) v t := by
  obtain ⟨b0, b1, b2, -⟩ := hI.bd
  refine Or.inl ⟨σ, ?_, ho, h7, h88⟩
  rw [sp_pathAt, if_pos ⟨pIn_nI (by omega) h0, pIn_nI (by omega) h1⟩, ix_nI (by omega), ix_nI (by omega), eL, if_neg (nI_m1 (by omega)), if_pos (pIn_nI (by omega) hi), ix_nI (by omega), ix_nI (by omega), hv]
