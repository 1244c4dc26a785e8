/-! The length of the best path, told in both ways. -/
theorem ls_rk {σ : ZS} (hI : zI σ) {q : Nat} : ∀ d g : Nat, g < σ.1 1 → (lsX σ q d g).toInt < 99 → (lsX σ q d g).toInt ≤ rkG σ g
  | 0, g, hg, h => absurd h (by show ¬ (99 : Int32).toInt < 99; decide)
  | d + 1, g, hg, h => by
    have hp := rk_pos hI hg
    by_cases h4 : hB (σ.2.2 4 g) q
    · rw [ls_1 h4]
      omega
    · rcases ls_at (d := d) h4 with e | ⟨k, hk, h5, e⟩
      · rw [e] at h
        exact absurd h (by decide)
      · rw [e, ls_rng.2.2] at h ⊢
        have := ls_rk hI (q := q) d k hk (by omega)
        have := rk_lt hI hg hk h5
        omega
theorem grg_hB {σ : ZS} (hI : zI σ) {r g : Nat} (hg : g < σ.1 1) : ∀ n, n ≤ σ.1 3 → (hB (fN (grgF σ r) 0 n) g ↔ ∃ i, i < n ∧ gGr σ r i g)
  | 0, _ => ⟨fun h => absurd h (hB_0 (by have := hI.bd.2.1; omega)), fun ⟨i, hi, _⟩ => absurd hi (Nat.not_lt_zero i)⟩
  | n + 1, hn => by
    have b1 := hI.bd.2.1
    have ih := grg_hB hI (r := r) hg n (by omega)
    rw [fN_s]
    by_cases hc : actOf σ n (nI r) ∧ σ.2.2 21 n = -1
    · have hk : ¬ σ.2.2 26 n = 0 := fun z => by
        obtain ⟨j, hj, e, -⟩ := hI.mper n (by omega) z
        rw [hc.2] at e
        exact nI_m1 (by have := hI.bd.1; omega) e.symm
      obtain ⟨t, ht, -, e22, e25⟩ := hI.mgrp n (by omega) hk
      rw [grgF, if_pos hc, e22, ix_nI (by omega), hB_or (by omega), ih, hB_bt1 (by omega) (by omega)]
      constructor
      · rintro (⟨i, hi, h⟩ | e)
        · exact ⟨i, by omega, h⟩
        · exact ⟨n, by omega, hc.1, hk, by rw [e25, e]⟩
      · rintro ⟨i, hi, h⟩
        rcases Nat.lt_succ_iff_lt_or_eq.mp hi with z | z
        · exact Or.inl ⟨i, z, h⟩
        · subst z
          exact Or.inr ((nI_eq (by omega) (by omega)).mp (e25.symm.trans h.2.2))
    · rw [grgF, if_neg hc, ih]
      constructor
      · rintro ⟨i, hi, h⟩
        exact ⟨i, by omega, h⟩
      · rintro ⟨i, hi, h⟩
        rcases Nat.lt_succ_iff_lt_or_eq.mp hi with z | z
        · exact ⟨i, z, h⟩
        · subst z
          exact absurd ⟨h.1, sr_21 hI (by omega) h.2.1⟩ hc
theorem grg_sm {σ : ZS} (hI : zI σ) {r : Nat} : zSm (grgI σ r) (σ.1 1) := by
  have b1 := hI.bd.2.1
  unfold grgI
  suffices h : ∀ n, n ≤ σ.1 3 → zSm (fN (grgF σ r) 0 n) (σ.1 1) from h _ (Nat.le_refl _)
  intro n
  induction n with
  | zero => exact fun _ => zSm_0
  | succ n ih =>
    intro hn
    rw [fN_s]
    by_cases hc : actOf σ n (nI r) ∧ σ.2.2 21 n = -1
    · obtain ⟨t, ht, e⟩ := hI.grp n (by omega) hc.2
      rw [grgF, if_pos hc, e, ix_nI (by omega)]
      exact zSm_or (ih (by omega)) (zSm_bt1 ht (by omega))
    · rw [grgF, if_neg hc]
      exact ih (by omega)
theorem lenP_ls {σ : ZS} (hI : zI σ) {q r k : Nat} (hk : k ≤ 90) : lenP σ q r k ↔ ∃ i j, i < σ.1 3 ∧ j < σ.1 1 ∧ gGr σ r i j ∧ (lsX σ q 8 j).toInt ≤ k + 1 := by
  unfold lenP
  rw [and_ex]
  constructor
  · rintro ⟨j, hj, h1, h2⟩
    have hj1 : j < σ.1 1 := Classical.byContradiction fun z => grg_sm hI j (by omega) hj h1
    obtain ⟨i, hi, hg⟩ := (grg_hB hI hj1 _ (Nat.le_refl _)).mp h1
    exact ⟨i, j, hi, hj1, hg, (ls_with hI k j hk hj1).mp h2⟩
  · rintro ⟨i, j, hi, hj1, hg, hl⟩
    exact ⟨j, by have := hI.bd.2.1; omega, (grg_hB hI hj1 _ (Nat.le_refl _)).mpr ⟨i, hi, hg⟩, (ls_with hI k j hk hj1).mpr hl⟩
theorem len_pl {σ : ZS} (hI : zI σ) (q r : Nat) : lenI σ q r = plI σ q r := by
  have b1 := hI.bd.2.1
  by_cases ha : hasAct σ (nI r) (nI q) (-1)
  · have e : srI σ q r = -1 := if_pos ha
    rw [lenI_0 ha, plI, e, if_neg (by decide), if_neg (by decide)]
  · have e : srI σ q r = fN (srF σ q r) (-2) (σ.1 3) := if_neg ha
    rcases sr_spec hI (q := q) (r := r) (σ.1 3) (Nat.le_refl _) with ⟨e2, h⟩ | ⟨b, hb, e2, ⟨i, hi, hib⟩, hl, h⟩
    · rw [plI, e, e2, if_pos rfl]
      have hn : (List.range 8).find? (fun k => decide (lenP σ q r k)) = none := by
        rw [List.find?_range_eq_none]
        intro k hk
        have : ¬ lenP σ q r k := fun z => by
          obtain ⟨i, j, hi, hj, hg, hl⟩ := (lenP_ls hI (by omega)).mp z
          rw [h i j hi hj hg] at hl
          omega
        simpa using this
      rw [lenI, if_neg ha, hn]
    · obtain ⟨m, hm1, hm2, em⟩ := ls_nat (σ := σ) (q := q) 8 b
      have hr := ls_rk hI 8 b hb hl
      have h8 := rk_le hI (g := b)
      have et : (lsX σ q 8 b).toInt = m := by rw [em, nI_toInt (by omega)]
      have hp : plI σ q r = nI m := by
        rw [plI, e, e2, if_neg (fun z => by have := congrArg Int32.toInt z; rw [nI_toInt (by omega)] at this; have e2 : (-2 : Int32).toInt = -2 := by decide
                                            omega), if_pos (nI_pos' (by omega)), ix_nI (by omega), em]
      rw [hp, lenI_k (k := m - 1) ha (by omega) ((lenP_ls hI (by omega)).mpr ⟨i, b, hi, hb, hib, by omega⟩) (fun a ha2 z => by
        obtain ⟨i', j, hi', hj, hg, hl2⟩ := (lenP_ls hI (by omega)).mp z
        have := h i' j hi' hj hg
        omega), show m - 1 + 1 = m by omega]
