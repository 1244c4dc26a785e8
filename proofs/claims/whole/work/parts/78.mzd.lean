/-! The chain is kept by decisions, ends and days. -/
theorem zE_dec {σ : ZS} {i : Nat} {vd dc : Int32} (h : zE σ) : zE (decI σ i vd dc) := by
  have h1 : zE (settle σ i vd dc) := by
    unfold settle
    dsimp only
    split <;> exact h
  simp only [decI]
  split
  · have h2 := zE_ev (sg := vd) (g := σ.2.2 16 i) (dy := (settle σ i vd dc).2.1 0) h1
    exact h2
  · exact zE_ev h1
theorem zE_end {σ : ZS} {g : Nat} (h : zE σ) : zE (endI σ g) := by
  unfold endI
  split <;> exact zE_ev (by exact h)
theorem zE_edg {σ : ZS} (h : zI σ) (hE : zE σ) : zE (edgI σ) := (edg_keep (P := fun s => s.1 3 ≤ 24 ∧ zE s) (fun s g hs _ => ⟨by rw [end_1 (by decide)]; exact hs.1, zE_end hs.2⟩) (fun _ hs => hs.1) _ _ _ ⟨h.bd.2.2.2.1, hE⟩).2
theorem zE_silF {s : ZS} {i : Nat} (h : zE s) : zE (silF i s) := by
  unfold silF
  split
  · exact zE_dec h
  · exact h
theorem zE_silN {σ : ZS} (h : zE σ) (n : Nat) : zE (fN silF σ n) := fN_ind h (fun _ _ _ q => zE_silF q)
theorem zE_day {σ : ZS} (h1 : zI σ) (h2 : zU σ) (h3 : zE σ) : zE (dayI σ) := by
  have h3' : zE (uN σ 0 (σ.2.1 0 + 1)) := h3
  by_cases hc : 0 < σ.1 6 ∧ σ.2.1 0 + 1 = σ.2.1 3
  · rw [dayI_a hc.1 hc.2]
    exact zE_edg (zIU_sil (zI_n0 h1) (zU_n0 h2)).1 (zE_silN h3' _)
  · rw [dayI_b hc]
    exact zE_edg (zI_n0 h1) h3'
